/-! the mathematical state: S f i. Fields: 0 source, 1 target, 2 packets, 3 start, 4 sent, 5 delivered, 6 lost, 7 late, 8 greatest, 9 done, 10 flowlets, 11 spine, 12 latest (by flow);
13 credits, 14 size, 15 last queue (by link); 16 open, 17 last flow (by host); 18 cut (4 leaf + spine); 19 delay, gap, window, clock, flows; 20 flow, 21 number, 22 flowlet, 23 spine of the packet at place j of the queue of link L (4 L + j); 24 credits of link L that return in tick t (64 t + L) -/
abbrev ab_S : Type := Nat → Nat → Int
def ab_u (S : ab_S) (f i : Nat) (x : Int) : ab_S := fun g j => if g = f ∧ j = i then x else S g j
theorem ab_u_app (S : ab_S) (f i : Nat) (x : Int) (g j : Nat) : ab_u S f i x g j = if g = f ∧ j = i then x else S g j := rfl
def ab_fl (S : ab_S) (q : Nat) : Nat := (S 20 (4 * q)).toNat
def ab_la (S : ab_S) (f : Nat) : Nat := (S 0 f / 4).toNat
def ab_lb (S : ab_S) (f : Nat) : Nat := (S 1 f / 4).toNat
def ab_far (S : ab_S) (f : Nat) : Bool := decide (S 0 f / 4 ≠ S 1 f / 4)
def ab_us (S : ab_S) (a b s : Nat) : Bool := decide (S 18 (4 * a + s) = 0) && decide (S 18 (4 * b + s) = 0)
def ab_1 (b : Bool) : Int := if b then 1 else 0
def ab_many (S : ab_S) (a b : Nat) : Int := ab_1 (ab_us S a b 0) + ab_1 (ab_us S a b 1) + ab_1 (ab_us S a b 2) + ab_1 (ab_us S a b 3)
def ab_nth (u0 u1 u2 u3 : Bool) (p : Int) : Int :=
  if u0 = true ∧ p = 0 then 0 else if u1 = true ∧ p = ab_1 u0 then 1 else if u2 = true ∧ p = ab_1 u0 + ab_1 u1 then 2 else if u3 = true ∧ p = ab_1 u0 + ab_1 u1 + ab_1 u2 then 3 else -1
def ab_chosen (S : ab_S) (f : Nat) (k : Int) : Int :=
  if ab_many S (ab_la S f) (ab_lb S f) = 0 then -1 else
  ab_nth (ab_us S (ab_la S f) (ab_lb S f) 0) (ab_us S (ab_la S f) (ab_lb S f) 1) (ab_us S (ab_la S f) (ab_lb S f) 2) (ab_us S (ab_la S f) (ab_lb S f) 3) ((7 * (f : Int) + 13 * k + 3 * S 0 f + 5 * S 1 f) % ab_many S (ab_la S f) (ab_lb S f))
/-- the tick in which a credit comes back that is freed now -/
def ab_T (S : ab_S) : Nat := (S 19 3).toNat + 1 + (S 19 0).toNat
def ab_mask (S : ab_S) (a : Nat) : Int := (1 - S 18 (4 * a)) + 2 * (1 - S 18 (4 * a + 1)) + 4 * (1 - S 18 (4 * a + 2)) + 8 * (1 - S 18 (4 * a + 3))
def ab_um (S : ab_S) (a b : Nat) : Int := ab_1 (ab_us S a b 0) + 2 * ab_1 (ab_us S a b 1) + 4 * ab_1 (ab_us S a b 2) + 8 * ab_1 (ab_us S a b 3)
/-- the steps of a tick -/
def ab_back (S : ab_S) (k : Nat) : ab_S := fun f i =>
  if f = 13 ∧ i < k then S 13 i + S 24 (64 * (S 19 3).toNat + i)
  else if f = 24 ∧ i / 64 = (S 19 3).toNat ∧ i % 64 < k then 0 else S f i
def ab_drop (S : ab_S) (L : Nat) : ab_S := fun f i =>
  if f = 14 ∧ i = L then S 14 L - 1
  else if 20 ≤ f ∧ f ≤ 23 ∧ i / 4 = L ∧ i % 4 < 3 then S f (i + 1)
  else if f = 24 ∧ i = 64 * ab_T S + L then S 24 i + 1 else S f i
def ab_put (S : ab_S) (L : Nat) (a b c d : Int) : ab_S := fun f i =>
  if f = 14 ∧ i = L then S 14 L + 1
  else if f = 20 ∧ i = 4 * L + (S 14 L).toNat then a
  else if f = 21 ∧ i = 4 * L + (S 14 L).toNat then b
  else if f = 22 ∧ i = 4 * L + (S 14 L).toNat then c
  else if f = 23 ∧ i = 4 * L + (S 14 L).toNat then d else S f i
/-- a packet of the flow f with the number x is delivered -/
def ab_got (S : ab_S) (f : Nat) (x : Int) : ab_S := fun g i =>
  if g = 5 ∧ i = f then S 5 f + 1
  else if g = 7 ∧ i = f then S 7 f + (if x < S 8 f then 1 else 0)
  else if g = 8 ∧ i = f then (if x < S 8 f then S 8 f else x)
  else if g = 9 ∧ i = f then (if S 5 f + 1 = S 2 f then S 19 3 else S 9 f) else S g i
def ab_dlv (S : ab_S) (h : Nat) : ab_S := if 0 < S 14 (16 + h) then ab_drop (ab_u (ab_got S (ab_fl S (16 + h)) (S 21 (4 * (16 + h)))) 16 h (S 16 h - 1)) (16 + h) else S
def ab_dlvN (S : ab_S) : Nat → ab_S
  | 0 => S
  | k + 1 => ab_dlv (ab_dlvN S k) k
def ab_dlvC (S : ab_S) : Nat → Int
  | 0 => 0
  | k + 1 => ab_dlvC S k + (if 0 < ab_dlvN S k 14 (16 + k) then 1 else 0)
def ab_lose (S : ab_S) (sp lf : Nat) : ab_S :=
  if 0 < S 14 (32 + 4 * lf + sp) ∧ ¬ S 18 (4 * ab_lb S (ab_fl S (32 + 4 * lf + sp)) + sp) = 0 then
    ab_drop (ab_u (ab_u S 6 (ab_fl S (32 + 4 * lf + sp)) (S 6 (ab_fl S (32 + 4 * lf + sp)) + 1)) 16 (S 1 (ab_fl S (32 + 4 * lf + sp))).toNat (S 16 (S 1 (ab_fl S (32 + 4 * lf + sp))).toNat - 1)) (32 + 4 * lf + sp)
  else S
def ab_loseN (S : ab_S) : Nat → ab_S
  | 0 => S
  | k + 1 => ab_lose (ab_loseN S k) (k / 4) (k % 4)
def ab_cho (S : ab_S) (L : Nat) : ab_S :=
  if 0 < S 14 L ∧ ab_far S (ab_fl S L) = true ∧ ab_us S (L / 4) (ab_lb S (ab_fl S L)) (S 23 (4 * L)).toNat = false ∧ ¬ ab_chosen S (ab_fl S L) (S 22 (4 * L)) = -1 then ab_u S 23 (4 * L) (ab_chosen S (ab_fl S L) (S 22 (4 * L))) else S
def ab_choN (S : ab_S) : Nat → ab_S
  | 0 => S
  | k + 1 => ab_cho (ab_choN S k) k
/-- the link that the first packet of a queue wants -/
def ab_w (S : ab_S) (q : Nat) : Int :=
  if S 14 q = 0 ∨ (16 ≤ q ∧ q < 32) then -1
  else if 48 ≤ q then 16 + S 1 (ab_fl S q)
  else if 32 ≤ q then 48 + 4 * (((q - 32) % 4 : Nat) : Int) + S 1 (ab_fl S q) / 4
  else if ((q / 4 : Nat) : Int) = S 1 (ab_fl S q) / 4 then 16 + S 1 (ab_fl S q)
  else if ab_us S (q / 4) (ab_lb S (ab_fl S q)) (S 23 (4 * q)).toNat = true then 32 + 4 * ((q / 4 : Nat) : Int) + S 23 (4 * q) else -1
def ab_qat (L j : Nat) : Nat := if 48 ≤ L then 32 + 4 * j + (L - 48) / 4 else if 32 ≤ L then (if j < 4 then 4 * ((L - 32) / 4) + j else 48 + 4 * (j - 4) + (L - 32) / 4) else (if j < 4 then 4 * ((L - 16) / 4) + j else 48 + 4 * (j - 4) + (L - 16) / 4)
def ab_m (L : Nat) : Nat := if 48 ≤ L then 4 else 8
def ab_shut (S : ab_S) (L : Nat) : Bool := if 48 ≤ L then decide (¬ S 18 (4 * ((L - 48) % 4) + (L - 48) / 4) = 0) else decide (32 ≤ L) && decide (¬ S 18 (L - 32) = 0)
def ab_plc (S : ab_S) (L s : Nat) : Nat := ((S 15 L + (s : Int)) % ((ab_m L : Nat) : Int)).toNat
def ab_pick (S : ab_S) (L : Nat) : Int :=
  if 0 < S 13 L ∧ ab_shut S L = false then (match ab_scan (fun s => decide (ab_w S (ab_qat L (ab_plc S L s)) = (L : Int))) 1 (ab_m L) with
    | none => -1
    | some s => (ab_plc S L s : Int)) else -1
def ab_may (S : ab_S) (op : Nat → Int) (f h : Nat) : Bool := decide (S 0 f = (h : Int)) && decide (S 3 f ≤ S 19 3) && decide (S 4 f - S 6 f < S 2 f) && (!ab_far S f || decide (¬ ab_many S (ab_la S f) (ab_lb S f) = 0)) && decide (op (S 1 f).toNat < S 19 2)
def ab_self (S : ab_S) (op : Nat → Int) (h : Nat) : Int :=
  if 0 < S 13 h then (match ab_scan (fun s => ab_may S op ((S 17 h + (s : Int)) % S 19 4).toNat h) 1 (S 19 4).toNat with
    | none => -1
    | some s => (S 17 h + (s : Int)) % S 19 4) else -1
/-- the open packets when the hosts below k have picked -/
def ab_op (S : ab_S) : Nat → Nat → Int
  | 0 => S 16
  | k + 1 => fun t => ab_op S k t + (if ¬ ab_self S (ab_op S k) k = -1 ∧ (S 1 (ab_self S (ab_op S k) k).toNat).toNat = t then 1 else 0)
/-- the flow that the host h picks -/
def ab_F (S : ab_S) (h : Nat) : Int := ab_self S (ab_op S h) h
def ab_new (S : ab_S) (f : Nat) : Bool := ab_far S f && (decide (S 10 f = 0) || decide (S 19 1 < S 19 3 - S 12 f) || !ab_us S (ab_la S f) (ab_lb S f) (S 11 f).toNat)
/-- what the host h sends: of its flow f, the field x of the packet -/
def ab_pk (S : ab_S) (f x : Nat) : Int :=
  if x = 0 then (f : Int) else if x = 1 then S 4 f else if x = 2 then S 10 f + ab_1 (ab_new S f) - 1 else if ab_new S f = true then ab_chosen S f (S 10 f) else S 11 f
/-- between picking and the end of the tick: the links of XQ have noted what they picked, credits are taken by the links of XC and the hosts below K, packets are put by the links of X and the hosts below M, the queues of D have lost their first -/
def ab_Z (S : ab_S) (XQ XC X D : Nat → Bool) (K M : Nat) : ab_S := fun f i =>
  if f = 4 then S 4 i + (if (S 0 i).toNat < M ∧ ab_F S (S 0 i).toNat = (i : Int) then 1 else 0)
  else if f = 12 then (if (S 0 i).toNat < M ∧ ab_F S (S 0 i).toNat = (i : Int) then S 19 3 else S 12 i)
  else if f = 10 then S 10 i + (if (S 0 i).toNat < M ∧ ab_F S (S 0 i).toNat = (i : Int) then ab_1 (ab_new S i) else 0)
  else if f = 11 then (if (S 0 i).toNat < M ∧ ab_F S (S 0 i).toNat = (i : Int) ∧ ab_new S i = true then ab_chosen S i (S 10 i) else S 11 i)
  else if f = 13 then S 13 i - (if i < 16 then (if i < K ∧ ¬ ab_F S i = -1 then 1 else 0) else ab_1 (XC i))
  else if f = 14 then S 14 i - ab_1 (D i) + (if i < 16 then (if i < M ∧ ¬ ab_F S i = -1 then 1 else 0) else ab_1 (X i))
  else if f = 15 then (if 16 ≤ i ∧ XQ i = true ∧ ¬ ab_pick S i = -1 then ab_pick S i else S 15 i)
  else if f = 16 then ab_op S K i
  else if f = 17 then (if i < K ∧ ¬ ab_F S i = -1 then ab_F S i else S 17 i)
  else if f = 24 then S 24 i + (if i / 64 = ab_T S then ab_1 (D (i % 64)) else 0)
  else if 20 ≤ f ∧ f ≤ 23 then
    (if i / 4 < 16 ∧ i / 4 < M ∧ ¬ ab_F S (i / 4) = -1 ∧ ((i % 4 : Nat) : Int) = S 14 (i / 4) - ab_1 (D (i / 4)) then ab_pk S (ab_F S (i / 4)).toNat (f - 20)
     else if 16 ≤ i / 4 ∧ X (i / 4) = true ∧ ((i % 4 : Nat) : Int) = S 14 (i / 4) - ab_1 (D (i / 4)) then S f (4 * ab_qat (i / 4) (ab_pick S (i / 4)).toNat)
     else if D (i / 4) = true then S f (i + 1) else S f i)
  else S f i
/-! the two representations -/
def ab_C (S : ab_S) (σ : am_M) : Prop :=
  (σ 0 0 8 = S 19 4 ∧ σ 0 0 9 = S 19 3 ∧ σ 0 0 10 = S 19 0 ∧ σ 0 0 11 = S 19 1 ∧ σ 0 0 12 = S 19 2) ∧
  (∀ f j : Nat, (f : Int) < S 19 4 → j < 13 → σ 9 f j = S j f) ∧
  (∀ h : Nat, h < 16 → σ 10 h 2 = S 16 h ∧ σ 10 h 3 = S 17 h) ∧
  (∀ L : Nat, L < 64 → σ 11 L 3 = S 14 L ∧ σ 11 L 4 = S 13 L ∧ (0 ≤ σ 11 L 2 ∧ σ 11 L 2 < 4) ∧ σ 11 L 5 = S 15 L) ∧
  (∀ L j x : Nat, L < 64 → (j : Int) < S 14 L → x < 4 → σ 14 (4 * L + ((σ 11 L 2 + (j : Int)) % 4).toNat) x = S (20 + x) (4 * L + j)) ∧
  (∀ L t : Nat, L < 64 → S 19 3 ≤ (t : Int) → (t : Int) < S 19 3 + 7 → σ 13 L (t % 7) = S 24 (64 * t + L)) ∧
  (∀ a : Nat, a < 4 → σ 8 0 a = ab_mask S a)
def ab_R (S : ab_S) (ρ : am_M) : Prop :=
  (ρ 20 0 4 = S 19 4 ∧ ρ 20 0 3 = S 19 3 ∧ ρ 20 0 0 = S 19 0 ∧ ρ 20 0 1 = S 19 1 ∧ ρ 20 0 2 = S 19 2 ∧ ρ 20 0 35 = S 19 5) ∧
  (∀ f j : Nat, (f : Int) < S 19 4 → j < 13 → ρ (25 + j) 0 f = S j f) ∧
  (∀ h : Nat, h < 16 → ρ 50 0 h = S 16 h ∧ ρ 48 0 h = S 17 h) ∧
  (∀ L : Nat, L < 64 → ρ 39 0 L = S 14 L ∧ ρ 38 0 L = S 13 L ∧ ρ 40 0 L = S 15 L) ∧
  (∀ L j : Nat, L < 64 → (j : Int) < S 14 L → ρ 43 0 (4 * L + j) = S 20 (4 * L + j) ∧ ρ 44 0 (4 * L + j) = S 21 (4 * L + j) ∧ ρ 46 0 (4 * L + j) = S 22 (4 * L + j) ∧ ρ 45 0 (4 * L + j) = S 23 (4 * L + j)) ∧
  (∀ L t : Nat, L < 64 → S 19 3 ≤ (t : Int) → (t : Int) < S 19 3 + 8 → ρ 42 0 (8 * L + t % 8) = S 24 (64 * t + L)) ∧
  (∀ q : Nat, q < 16 → ρ 47 0 q = S 18 q)
/-- what holds of the state between the steps; b: how far the counters may have come -/
def ab_rs (S : ab_S) (L : Nat) : Int := am_sum (fun d => S 24 (64 * ((S 19 3).toNat + d) + L)) 7
def ab_If (S : ab_S) (b : Int) (f : Nat) : Prop :=
  (0 ≤ S 0 f ∧ S 0 f < 16) ∧ (0 ≤ S 1 f ∧ S 1 f < 16) ∧ (1 ≤ S 2 f ∧ S 2 f ≤ 100) ∧ (0 ≤ S 3 f ∧ S 3 f ≤ 100200) ∧
  (0 ≤ S 4 f ∧ S 4 f ≤ b) ∧ (0 ≤ S 5 f ∧ S 5 f ≤ b) ∧ (0 ≤ S 6 f ∧ S 6 f ≤ b) ∧ (0 ≤ S 7 f ∧ S 7 f ≤ b) ∧ (-1 ≤ S 8 f ∧ S 8 f ≤ b) ∧ (-1 ≤ S 9 f ∧ S 9 f ≤ 100000) ∧ (0 ≤ S 10 f ∧ S 10 f ≤ b) ∧ (-1 ≤ S 11 f ∧ S 11 f ≤ 3) ∧ (-1 ≤ S 12 f ∧ S 12 f ≤ 100000) ∧
  (ab_far S f = true → (S 12 f = -1 ↔ S 10 f = 0) ∧ (0 < S 10 f → 0 ≤ S 11 f)) ∧ (ab_far S f = false → S 10 f = 0 ∧ S 11 f = -1)
def ab_Iq (S : ab_S) (b : Int) (L j : Nat) : Prop :=
  (0 ≤ S 20 (4 * L + j) ∧ S 20 (4 * L + j) < S 19 4) ∧ (0 ≤ S 21 (4 * L + j) ∧ S 21 (4 * L + j) ≤ b) ∧ (-1 ≤ S 22 (4 * L + j) ∧ S 22 (4 * L + j) ≤ b) ∧ (-1 ≤ S 23 (4 * L + j) ∧ S 23 (4 * L + j) ≤ 3) ∧
  (L < 16 → S 0 (S 20 (4 * L + j)).toNat = (L : Int) ∧ (ab_far S (S 20 (4 * L + j)).toNat = true → 0 ≤ S 22 (4 * L + j) ∧ 0 ≤ S 23 (4 * L + j))) ∧
  (16 ≤ L → L < 32 → S 1 (S 20 (4 * L + j)).toNat = (L : Int) - 16) ∧
  (48 ≤ L → S 1 (S 20 (4 * L + j)).toNat / 4 = (((L - 48) % 4 : Nat) : Int))
def ab_I (S : ab_S) (b : Int) : Prop :=
  (0 ≤ b ∧ b ≤ 100000000) ∧ ((0 ≤ S 19 0 ∧ S 19 0 ≤ 5) ∧ (1 ≤ S 19 1 ∧ S 19 1 ≤ 50) ∧ (1 ≤ S 19 2 ∧ S 19 2 ≤ 16) ∧ (0 ≤ S 19 3 ∧ S 19 3 ≤ 100000) ∧ (0 ≤ S 19 4 ∧ S 19 4 ≤ 24)) ∧
  (∀ f : Nat, (f : Int) < S 19 4 → ab_If S b f) ∧
  (∀ L : Nat, L < 64 → 0 ≤ S 13 L ∧ 0 ≤ S 14 L ∧ S 13 L + S 14 L + ab_rs S L = 4 ∧ -1 ≤ S 15 L ∧ S 15 L < 8 ∧ (48 ≤ L → S 15 L < 4)) ∧
  (∀ L t : Nat, L < 64 → 0 ≤ S 24 (64 * t + L) ∧ (S 19 3 + 7 ≤ (t : Int) → S 24 (64 * t + L) = 0)) ∧
  (∀ h : Nat, h < 16 → (-b ≤ S 16 h ∧ S 16 h ≤ b) ∧ (-1 ≤ S 17 h ∧ S 17 h < 24)) ∧
  (∀ q : Nat, q < 16 → S 18 q = 0 ∨ S 18 q = 1) ∧
  (∀ L j : Nat, L < 64 → (j : Int) < S 14 L → ab_Iq S b L j)
/-- two states that differ at most behind the ends of the queues -/
def ab_eq (S T : ab_S) : Prop := (∀ f i : Nat, (f < 20 ∨ 23 < f) → S f i = T f i) ∧ ∀ L j x : Nat, L < 64 → (j : Int) < S 14 L → x < 4 → S (20 + x) (4 * L + j) = T (20 + x) (4 * L + j)
