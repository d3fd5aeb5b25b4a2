/-! the hosts send -/
def ab_cs (T : ab_S) (f : Nat) : Bool :=
  if T 19 3 < T 3 f then false else if ¬ 0 < T 2 f - (T 4 f - T 6 f) then false else if ¬ T 16 (T 1 f).toNat < T 19 2 then false
  else if ab_far T f = false then true else if ab_um T (ab_la T f) (ab_lb T f) = 0 then false else true
theorem may_cs (T : ab_S) (f h : Nat) : ab_may T (T 16) f h = (decide (T 0 f = (h : Int)) && ab_cs T f) := by
  have hu := ab_um0 T (ab_la T f) (ab_lb T f)
  unfold ab_may ab_cs
  by_cases h1 : T 19 3 < T 3 f
  · rw [if_pos h1, decide_eq_false (show ¬ T 3 f ≤ T 19 3 by omega)]; simp
  · rw [if_neg h1, decide_eq_true (show T 3 f ≤ T 19 3 by omega)]
    by_cases h2 : ¬ 0 < T 2 f - (T 4 f - T 6 f)
    · rw [if_pos h2, decide_eq_false (show ¬ T 4 f - T 6 f < T 2 f by omega)]; simp
    · rw [if_neg h2, decide_eq_true (show T 4 f - T 6 f < T 2 f by omega)]
      by_cases h3 : ¬ T 16 (T 1 f).toNat < T 19 2
      · rw [if_pos h3, decide_eq_false h3]; simp
      · rw [if_neg h3, decide_eq_true (Classical.not_not.mp h3)]
        cases hf : ab_far T f with
        | false => simp
        | true =>
          by_cases h4 : ab_um T (ab_la T f) (ab_lb T f) = 0
          · have hm := hu.mp h4
            rw [if_neg (by decide), if_pos h4, hm]; simp
          · have hm : ¬ ab_many T (ab_la T f) (ab_lb T f) = 0 := fun z => h4 (hu.mpr z)
            rw [if_neg (by decide), if_neg h4]; simp [hm]
def ab_pf (T : ab_S) (h : Nat) (last : Int) : Int := match ab_scan (fun s => ab_may T (T 16) ((last + (s : Int)) % T 19 4).toNat h) 1 (T 19 4).toNat with
  | none => -1
  | some s => (last + (s : Int)) % T 19 4
theorem pf_step {T : ab_S} {h : Nat} {last : Int} {s n : Nat} (hs : s ≤ n) (e : ab_scan (fun s => ab_may T (T 16) ((last + (s : Int)) % T 19 4).toNat h) 1 (T 19 4).toNat = ab_scan (fun s => ab_may T (T 16) ((last + (s : Int)) % T 19 4).toNat h) s (n + 1 - s)) :
    (ab_may T (T 16) ((last + (s : Int)) % T 19 4).toNat h = true → ab_pf T h last = (last + (s : Int)) % T 19 4) ∧ (ab_may T (T 16) ((last + (s : Int)) % T 19 4).toNat h = false → ab_scan (fun s => ab_may T (T 16) ((last + (s : Int)) % T 19 4).toNat h) 1 (T 19 4).toNat = ab_scan (fun s => ab_may T (T 16) ((last + (s : Int)) % T 19 4).toNat h) (s + 1) (n + 1 - (s + 1))) := by
  rw [show n + 1 - s = (n - s) + 1 by omega, ab_scan] at e
  refine ⟨fun z => ?_, fun z => ?_⟩
  · rw [if_pos z] at e
    unfold ab_pf
    rw [e]
  · rw [if_neg (by rw [z]; decide)] at e
    rw [e, show n + 1 - (s + 1) = n - s by omega]
theorem pf_none {T : ab_S} {h : Nat} {last : Int} {s n : Nat} (hs : n + 1 ≤ s) (e : ab_scan (fun s => ab_may T (T 16) ((last + (s : Int)) % T 19 4).toNat h) 1 (T 19 4).toNat = ab_scan (fun s => ab_may T (T 16) ((last + (s : Int)) % T 19 4).toNat h) s (n + 1 - s)) : ab_pf T h last = -1 := by
  rw [show n + 1 - s = 0 by omega, ab_scan] at e
  unfold ab_pf
  rw [e]
theorem ab_new_cs (T : ab_S) (f : Nat) (hf : ab_far T f = true) : (T 10 f = 0 → ab_new T f = true) ∧ (T 19 1 < T 19 3 - T 12 f → ab_new T f = true) ∧ (ab_us T (ab_la T f) (ab_lb T f) (T 11 f).toNat = false → ab_new T f = true) ∧ (¬ T 10 f = 0 → ¬ T 19 1 < T 19 3 - T 12 f → ab_us T (ab_la T f) (ab_lb T f) (T 11 f).toNat = true → ab_new T f = false) := by
  unfold ab_new
  rw [hf]
  refine ⟨fun z => by simp [z], fun z => by simp [z], fun z => by simp [z], fun a z c => by simp [a, z, c]⟩
/-- the flow of the new flowlet, if one begins -/
def ab_Na (T : ab_S) (f : Nat) : ab_S := if ab_new T f = true then ab_u (ab_u T 11 f (ab_chosen T f (T 10 f))) 10 f (T 10 f + 1) else T
def lk_Na (T : ab_S) (σ : am_M) (f : Nat) : am_M := if ab_new T f = true then am_up (am_up σ 9 f 11 (ab_chosen T f (T 10 f))) 9 f 10 (T 10 f + 1) else σ
theorem C_Na {T : ab_S} {σ : am_M} (h : ab_C T σ) {f : Nat} (hf : (f : Int) < T 19 4) : ab_C (ab_Na T f) (lk_Na T σ f) := by
  unfold ab_Na lk_Na
  split
  · exact C_fl (C_fl h (f := f) (j := 11) (by omega) _) (f := f) (j := 10) (by omega) _
  · exact h
theorem Na_o (T : ab_S) (f : Nat) {g : Nat} (i : Nat) (hg : ¬ (g = 10 ∨ g = 11)) : ab_Na T f g i = T g i := by
  unfold ab_Na
  split
  · rw [ab_u_app, if_neg (by omega), ab_u_app, if_neg (by omega)]
  · rfl
theorem Na_10 (T : ab_S) (f : Nat) : ab_Na T f 10 f = T 10 f + ab_1 (ab_new T f) := by
  unfold ab_Na
  cases hn : ab_new T f with
  | true => rw [if_pos rfl, ab_u_app, if_pos ⟨rfl, rfl⟩, ab_1t]
  | false => rw [if_neg (by decide), ab_1f]; omega
theorem Na_11 (T : ab_S) (f : Nat) : ab_Na T f 11 f = ab_pk T f 3 := by
  unfold ab_Na ab_pk
  cases hn : ab_new T f with
  | true => rw [if_pos rfl, ab_u_app, if_neg (by omega), ab_u_app, if_pos ⟨rfl, rfl⟩]; simp
  | false => rw [if_neg (by decide)]; simp
theorem Na_x (T : ab_S) (f : Nat) {g i : Nat} (hi : ¬ i = f) : ab_Na T f g i = T g i := by
  unfold ab_Na
  split
  · rw [ab_u_app, if_neg (by omega), ab_u_app, if_neg (by omega)]
  · rfl
/-- what has become of the state when the host h has sent a packet of its flow f -/
def ab_snd (T : ab_S) (f h : Nat) : ab_S := ab_put (ab_V T (ab_u (ab_u T 13 h (T 13 h - 1)) 16 (T 1 f).toNat (T 16 (T 1 f).toNat + 1)) f) h (ab_pk T f 0) (ab_pk T f 1) (ab_pk T f 2) (ab_pk T f 3)
def lk_snd (T : ab_S) (σ : am_M) (f h : Nat) : am_M := am_up (am_up (am_up (lk_put (lk_Na T σ f) h (f : Int) (T 4 f) (T 10 f + ab_1 (ab_new T f) - 1) (ab_pk T f 3)) 9 f 4 (T 4 f + 1)) 9 f 12 (T 19 3)) 10 (T 1 f).toNat 2 (T 16 (T 1 f).toNat + 1)
theorem lk_put_o (σ : am_M) (L : Nat) (a b c d : Int) {k : Nat} (i j : Nat) (h : ¬ (k = 11 ∨ k = 14)) : lk_put σ L a b c d k i j = σ k i j := by
  simp only [lk_put, am_up_app]
  rw [if_neg (by omega), if_neg (by omega), if_neg (by omega), if_neg (by omega), if_neg (by omega), if_neg (by omega)]
theorem C_snd {T : ab_S} {σ : am_M} (hC : ab_C T σ) {f h : Nat} (hf : (f : Int) < T 19 4) (hh : h < 16) (h14 : ∀ L, L < 64 → 0 ≤ T 14 L ∧ T 14 L ≤ 4) (hn : T 14 h < 4) : ab_C (ab_snd T f h) (lk_snd T σ f h) := by
  have c1 := C_Na hC hf
  have e14 : ∀ i, ab_Na T f 14 i = T 14 i := fun i => Na_o T f i (by omega)
  have c2 := C_put c1 (L := h) (by omega) (by rw [e14]; exact ⟨(h14 h (by omega)).1, hn⟩) (fun L hL => by rw [e14]; exact (h14 L hL).2) (f : Int) (T 4 f) (T 10 f + ab_1 (ab_new T f) - 1) (ab_pk T f 3)
  have c3 := C_fl c2 (f := f) (j := 4) (by omega) (T 4 f + 1)
  have c4 := C_fl c3 (f := f) (j := 12) (by omega) (T 19 3)
  have c5 := C_host c4 (k := (T 1 f).toNat) (j := 2) (Or.inl rfl) (T 16 (T 1 f).toNat + 1)
  refine C_ext (fun g i => ?_) c5
  rw [ab_u_app, ab_u_app, ab_u_app]
  unfold ab_snd
  by_cases g16 : g = 16
  · subst g16
    rw [ab_put_o _ _ _ _ _ _ (by omega) (by omega), ab_put_o _ _ _ _ _ _ (by omega) (by omega), ab_V_o _ _ _ _ _ (by omega), ab_u_app, ab_u_app, ab_u_app, Na_o _ _ _ (by omega)]
    by_cases e : i = (T 1 f).toNat
    · rw [if_pos ⟨rfl, e⟩, if_pos ⟨rfl, e⟩]
    · rw [if_neg (by omega), if_neg (by omega), if_neg (by omega), if_neg (by omega), if_neg (by omega), if_neg (by omega), Na_o _ _ _ (by omega)]
  · rw [if_neg (by omega)]
    by_cases g12 : g = 12
    · subst g12
      rw [ab_put_o _ _ _ _ _ _ (by omega) (by omega), ab_put_o _ _ _ _ _ _ (by omega) (by omega), ab_u_app]
      by_cases e : i = f
      · subst e; simp [ab_V]
      · simp only [ab_V, e, and_false, if_false]
        rw [ab_u_app, ab_u_app, if_neg (by omega), if_neg (by omega), if_neg (by omega), Na_o _ _ _ (by omega)]
    · rw [if_neg (by omega)]
      by_cases g4 : g = 4
      · subst g4
        rw [ab_put_o _ _ _ _ _ _ (by omega) (by omega), ab_put_o _ _ _ _ _ _ (by omega) (by omega), ab_u_app]
        by_cases e : i = f
        · subst e; simp [ab_V]
        · simp only [ab_V, e, and_false, if_false]
          rw [ab_u_app, ab_u_app, if_neg (by omega), if_neg (by omega), if_neg (by omega), Na_o _ _ _ (by omega)]
      · rw [if_neg (by omega)]
        by_cases g10 : g = 10
        · subst g10
          rw [ab_put_o _ _ _ _ _ _ (by omega) (by omega), ab_put_o _ _ _ _ _ _ (by omega) (by omega), ab_u_app, if_neg (by omega)]
          by_cases e : i = f
          · subst e; rw [Na_10]; simp [ab_V]
          · simp only [ab_V, e, and_false, if_false]
            rw [ab_u_app, ab_u_app, if_neg (by omega), if_neg (by omega), Na_x _ _ e]
        · by_cases g11 : g = 11
          · subst g11
            rw [ab_put_o _ _ _ _ _ _ (by omega) (by omega), ab_put_o _ _ _ _ _ _ (by omega) (by omega), ab_u_app, if_neg (by omega)]
            by_cases e : i = f
            · subst e; rw [Na_11]; simp [ab_V, ab_pk]
            · simp only [ab_V, e, and_false, if_false]
              rw [ab_u_app, ab_u_app, if_neg (by omega), if_neg (by omega), Na_x _ _ e]
          · have ev : ∀ g' i', ¬ (g' = 4 ∨ g' = 10 ∨ g' = 11 ∨ g' = 12 ∨ g' = 13 ∨ g' = 16) → ab_V T (ab_u (ab_u T 13 h (T 13 h - 1)) 16 (T 1 f).toNat (T 16 (T 1 f).toNat + 1)) f g' i' = ab_u (ab_Na T f) 13 h (ab_Na T f 13 h - 1) g' i' := fun g' i' q => by
              rw [ab_V_o _ _ _ _ _ (by omega), ab_u_app, if_neg (by omega), ab_u_app, if_neg (by omega), ab_u_app, if_neg (by omega), Na_o _ _ _ (by omega)]
            by_cases g14 : g = 14
            · subst g14
              rw [ab_put14, ab_put14, ev _ _ (by omega), ev _ _ (by omega)]
            · by_cases gq : 20 ≤ g ∧ g ≤ 23
              · obtain ⟨x, rfl⟩ : ∃ x, g = 20 + x := ⟨g - 20, by omega⟩
                rw [ab_putq _ _ _ _ _ _ (by omega), ab_putq _ _ _ _ _ _ (by omega), ev _ _ (by omega), ev _ _ (by omega)]
                simp only [ab_pk, ab_4, if_true, if_false, Nat.reduceEqDiff]
              · rw [ab_put_o _ _ _ _ _ _ (by omega) (by omega), ab_put_o _ _ _ _ _ _ (by omega) (by omega)]
                by_cases g13 : g = 13
                · subst g13
                  rw [ab_V_o _ _ _ _ _ (by omega), ab_u_app, ab_u_app, ab_u_app, if_neg (by omega : ¬ (13 = 16 ∧ i = (T 1 f).toNat)), Na_o _ _ _ (by omega), Na_o _ _ _ (by omega)]
                · rw [ev _ _ (by omega)]
theorem snd_cg {S T : ab_S} {f : Nat} (hf : ∀ j, j < 13 → T j f = S j f) (h18 : ∀ i, T 18 i = S 18 i) (h19 : ∀ i, T 19 i = S 19 i) : ab_new T f = ab_new S f ∧ (∀ k, ab_chosen T f k = ab_chosen S f k) ∧ (∀ x, ab_pk T f x = ab_pk S f x) ∧ ∀ X, ab_V T X f = ab_V S X f := by
  have f0 := hf 0 (by omega)
  have f1 := hf 1 (by omega)
  have ela : ab_la T f = ab_la S f := by simp only [ab_la, f0]
  have elb : ab_lb T f = ab_lb S f := by simp only [ab_lb, f1]
  have eus : ∀ a b s, ab_us T a b s = ab_us S a b s := fun a b s => by simp only [ab_us, h18]
  have em : ∀ a b, ab_many T a b = ab_many S a b := fun a b => by simp only [ab_many, eus]
  have en : ab_new T f = ab_new S f := by simp only [ab_new, ab_far, ela, elb, eus, f0, f1, hf 10 (by omega), hf 11 (by omega), hf 12 (by omega), h19]
  have ec : ∀ k, ab_chosen T f k = ab_chosen S f k := fun k => by simp only [ab_chosen, ela, elb, em, eus, f0, f1]
  have ep : ∀ x, ab_pk T f x = ab_pk S f x := fun x => by simp only [ab_pk, en, ec, hf 4 (by omega), hf 10 (by omega), hf 11 (by omega)]
  refine ⟨en, ec, ep, fun X => ?_⟩
  funext g i
  simp only [ab_V, en, ec, hf 4 (by omega), hf 10 (by omega), hf 11 (by omega), h19]
def ab_MS (S : ab_S) (h : Nat) : ab_S := ab_Z S (ab_Yk 48) (ab_XS S (ab_Yk 48)) (ab_XS S (ab_Yk 48)) (ab_DS S (ab_Yk 48)) h h
theorem I_MS {S : ab_S} {b : Int} (h : ab_I S b) (hb : b + 16 ≤ 100000000) {k : Nat} (hk : k ≤ 16) : ab_I (ab_MS S k) (b + 16) := I_Z h hb hk
/-- a flow of the host that is next still stands as it was -/
theorem MS_fl {S : ab_S} {h f : Nat} (h0 : h ≤ (S 0 f).toNat) (j : Nat) (hj : j < 13) : ab_MS S h j f = S j f := by
  unfold ab_MS
  by_cases e4 : j = 4
  · subst e4; rw [Z4, if_neg (by omega)]; omega
  · by_cases e10 : j = 10
    · subst e10; rw [Z10, if_neg (by omega)]; omega
    · by_cases e11 : j = 11
      · subst e11; rw [Z11, if_neg (by omega)]
      · by_cases e12 : j = 12
        · subst e12; rw [Z12, if_neg (by omega)]
        · rw [Zo (by omega)]
theorem MS_13 {S : ab_S} {h : Nat} (hh : h < 16) : ab_MS S h 13 h = S 13 h := by
  unfold ab_MS
  rw [Z13, if_pos hh, if_neg (by omega)]; omega
theorem MS_17 {S : ab_S} {h : Nat} : ab_MS S h 17 h = S 17 h := by
  unfold ab_MS
  rw [Z17, if_neg (by omega)]
theorem MS_o {S : ab_S} {h f : Nat} (hf : f < 4 ∨ (5 ≤ f ∧ f < 10) ∨ f = 18 ∨ f = 19 ∨ 25 ≤ f) (i : Nat) : ab_MS S h f i = S f i := Zo hf i
theorem MS_pf {S : ab_S} {h : Nat} (hh : h < 16) (hc : 0 < S 13 h) : ab_pf (ab_MS S h) h (S 17 h) = ab_F S h := by
  have hm : ∀ f, ab_may (ab_MS S h) (ab_MS S h 16) f h = ab_may S (ab_op S h) f h := fun f => by
    have e16 : ab_MS S h 16 = ab_op S h := funext fun t => Z16 t
    rw [e16]
    have ela : ab_la (ab_MS S h) f = ab_la S f := by simp only [ab_la, MS_o (S := S) (h := h) (show (0:Nat) < 4 ∨ _ from Or.inl (by omega))]
    have elb : ab_lb (ab_MS S h) f = ab_lb S f := by simp only [ab_lb, MS_o (S := S) (h := h) (show (1:Nat) < 4 ∨ _ from Or.inl (by omega))]
    have eus : ∀ a b s, ab_us (ab_MS S h) a b s = ab_us S a b s := fun a b s => by simp only [ab_us, MS_o (S := S) (h := h) (show (18:Nat) < 4 ∨ _ from by omega)]
    have em : ∀ a b, ab_many (ab_MS S h) a b = ab_many S a b := fun a b => by simp only [ab_many, eus]
    have efar : ab_far (ab_MS S h) f = ab_far S f := ab_far_cg (MS_o (by omega) f) (MS_o (by omega) f)
    unfold ab_may
    rw [MS_o (f := 0) (by omega), MS_o (f := 3) (by omega), MS_o (f := 19) (by omega), MS_o (f := 6) (by omega), MS_o (f := 2) (by omega), efar, ela, elb, em, MS_o (f := 1) (by omega), MS_o (f := 19) (by omega)]
    by_cases e : S 0 f = (h : Int)
    · rw [MS_fl (by omega) 4 (by omega)]
    · rw [decide_eq_false e]; simp
  unfold ab_pf ab_F ab_self
  rw [if_pos hc, MS_o (f := 19) (by omega)]
  simp only [hm]
  rfl
theorem I_last {T : ab_S} {b x : Int} (h : ab_I T b) (hx : -1 ≤ x ∧ x < 24) (k : Nat) : ab_I (ab_u T 17 k x) b := by
  obtain ⟨h1, h2, h3, h4, h5, h6, h7, h8⟩ := h
  have e : ∀ g i, ¬ g = 17 → ab_u T 17 k x g i = T g i := fun g i q => by rw [ab_u_app, if_neg (by omega)]
  refine ⟨h1, ?_, ?_, ?_, ?_, ?_, ?_, ?_⟩
  · simp only [e 19 _ (by omega)]; exact h2
  · intro f hf; rw [e 19 _ (by omega)] at hf; exact ab_If_cg (Int.le_refl _) (fun j hj => e j _ (by omega)) (h3 f hf)
  · intro L hL
    rw [e 13 _ (by omega), e 14 _ (by omega), e 15 _ (by omega), ab_rs_cg (S := T) (e 19 _ (by omega)) (fun t => e 24 _ (by omega))]
    exact h4 L hL
  · intro L t hL; rw [e 24 _ (by omega), e 19 _ (by omega)]; exact h5 L t hL
  · intro k' hk
    rw [e 16 _ (by omega), ab_u_app]
    refine ⟨(h6 k' hk).1, ?_⟩
    split
    · exact hx
    · exact (h6 k' hk).2
  · intro q hq; rw [e 18 _ (by omega)]; exact h7 q hq
  · intro L j hL hj
    rw [e 14 _ (by omega)] at hj
    exact ab_Iq_cg (S := T) (j := j) (Int.le_refl _) (e 19 _ (by omega)) (fun f _ => ⟨e 0 _ (by omega), e 1 _ (by omega)⟩) (fun x hx => e _ _ (by omega)) (h8 L j hL hj)
theorem C_MS {S : ab_S} {σ : am_M} {b : Int} (h : ab_I S b) {k f : Nat} (hk : k < 16) (hF : ab_F S k = (f : Int)) (hC : ab_C (ab_snd (ab_u (ab_MS S k) 17 k (f : Int)) f k) σ) : ab_C (ab_MS S (k + 1)) σ := by
  obtain ⟨f1, f2, f3, f4⟩ := F_fact h (k := k) (by omega)
  have m0 := (may_fact f4).1
  rw [hF, Int.toNat_natCast] at m0
  have e2 : ∀ j, j < 13 → ab_u (ab_MS S k) 17 k (f : Int) j f = S j f := fun j hj => by
    rw [ab_u_app, if_neg (by omega)]
    exact MS_fl (by omega) j hj
  obtain ⟨n1, n2, n3, n4⟩ := snd_cg (S := S) (T := ab_u (ab_MS S k) 17 k (f : Int)) (f := f) e2 (fun i => by rw [ab_u_app, if_neg (by omega)]; exact MS_o (by omega) i) (fun i => by rw [ab_u_app, if_neg (by omega)]; exact MS_o (by omega) i)
  have hlk : ∀ L, L < 64 → _ := fun L hL => Z_lk (Y2 := ab_Yk 48) (Y := ab_Yk 48) (K := k) h hL
  have hz : ∀ L, ab_Z S (ab_Yk 48) (ab_XS S (ab_Yk 48)) (ab_XS S (ab_Yk 48)) (ab_DS S (ab_Yk 48)) (k + 1) k 14 L = ab_Z S (ab_Yk 48) (ab_XS S (ab_Yk 48)) (ab_XS S (ab_Yk 48)) (ab_DS S (ab_Yk 48)) k k 14 L := fun L => by rw [Z14, Z14]
  have h13 := MS_13 (S := S) hk
  unfold ab_MS at h13
  have hk4 := hlk k (by omega)
  have hs4 := h.s4 (L := k) (by omega)
  have hd := D_rng (Y := ab_Yk 48) h (L := k) (by omega)
  have z := Z_M (S := S) (XQ := ab_Yk 48) (XC := ab_XS S (ab_Yk 48)) (X := ab_XS S (ab_Yk 48)) (D := ab_DS S (ab_Yk 48)) (K := k + 1) (M := k) hk hF m0 (by rw [hz]; omega) (fun L hL => by rw [hz]; exact (hlk L hL).2.2.1) (a := ab_pk S f 0) (b := ab_pk S f 1) (c := ab_pk S f 2) (d := ab_pk S f 3) (fun x hx => by match x, hx with | 0, _ => rfl | 1, _ => rfl | 2, _ => rfl | 3, _ => rfl)
  refine ab_C_eq z ?_
  refine C_ext (fun g i => ?_) hC
  unfold ab_snd
  rw [n3, n3, n3, n3, n4]
  have eV : ab_u (ab_u (ab_u (ab_MS S k) 17 k (f : Int)) 13 k (ab_u (ab_MS S k) 17 k (f : Int) 13 k - 1)) 16 (ab_u (ab_MS S k) 17 k (f : Int) 1 f).toNat (ab_u (ab_MS S k) 17 k (f : Int) 16 (ab_u (ab_MS S k) 17 k (f : Int) 1 f).toNat + 1) = ab_Z S (ab_Yk 48) (ab_XS S (ab_Yk 48)) (ab_XS S (ab_Yk 48)) (ab_DS S (ab_Yk 48)) (k + 1) k := by
    funext g' i'
    rw [Z_K hk hF, e2 1 (by omega)]
    simp only [ab_u_app, Nat.reduceEqDiff, false_and, if_false]
    by_cases q : g' = 16 ∧ i' = (S 1 f).toNat
    · rw [if_pos q, if_neg (by omega), if_pos q, q.2]; rfl
    · rw [if_neg q]
      by_cases q2 : g' = 13 ∧ i' = k
      · rw [if_pos q2, if_pos q2]; rfl
      · rw [if_neg q2, if_neg q2, if_neg q]; rfl
  rw [eV]
