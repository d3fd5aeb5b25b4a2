/-! what the law reads of its numbers -/
set_option maxRecDepth 100000 in
set_option maxHeartbeats 4000000 in
theorem w_source (l : Launch) (hl : l.stackTraces = false) (g : am_g) (hI : am_inj (gL g)) (σ : am_M) (k : Nat)  (S : ab_S) (hw : lW S σ) (hk : (k : Int) < S 19 4) : Met l yL_source wsL_source ({ frames := 0, cells := 0, slots := 0, locals := 0 }) (lP g σ [.ref ((g.2.2 60 0)), qi (((k : Nat) : Int))]) (lQ g (fun r σ' => σ' = σ ∧ r = S 0 k)) 0 0 (am_FA (gL g)) := by
  refine wq_start (cc := cL_source) (nL := 2) (ret := (some .int)) (by decide) rfl hI rfl (fun v hv => by simp only [List.mem_cons, List.not_mem_nil, or_false] at hv; rcases hv with rfl | rfl <;> rfl) (Nat.le_of_ble_eq_true rfl) ?_
  intro p e s m below meth c C hr hlk
  change wq g p l e (headSpec wsL_source ({ frames := 0, cells := 0, slots := 0, locals := 0 })).room s m ([.ref ((g.2.2 60 0)), qi (((k : Nat) : Int))] : List Value).toArray below meth c (0) (0) (MQ below (lQ g (fun r σ' => σ' = σ ∧ r = S 0 k)) ([.ref ((g.2.2 60 0)), qi (((k : Nat) : Int))] : List Value).toArray s 0 0 (am_FA (gL g))) (am_FA (gL g)) 2 0 [some (.ref ((g.2.2 60 0))), some (qi (((k : Nat) : Int)))] [] σ
  obtain ⟨e0, e1, e2, e3, ee⟩ := enc_f hw hk
  have hn24 := hw.2.1.2.1.2.2.2.2
  refine wq_aload_n C rfl dL_source_0 ?_
  refine wq_iload_n C rfl dL_source_1 ?_
  refine wq_iald C (k := 60) (n := 24) rfl (by decide) (by decide) (k) rfl (by omega) dL_source_2 ?_
  rw [ee]
  refine wq_bipush C (n := 15) (by decide) dL_source_3 ?_
  refine wq_iand C (S 0 k) ((i_mask (by omega) 4 16 15 rfl rfl).trans (congrArg Int32.ofInt (by omega))) dL_source_5 ?_
  refine wq_iret C hr hlk (Nat.le_of_ble_eq_true rfl) (Nat.le_of_ble_eq_true rfl) dL_source_6 ?_
  exact ⟨rfl, rfl⟩

set_option maxRecDepth 100000 in
set_option maxHeartbeats 4000000 in
theorem w_target (l : Launch) (hl : l.stackTraces = false) (g : am_g) (hI : am_inj (gL g)) (σ : am_M) (k : Nat)  (S : ab_S) (hw : lW S σ) (hk : (k : Int) < S 19 4) : Met l yL_target wsL_target ({ frames := 0, cells := 0, slots := 0, locals := 0 }) (lP g σ [.ref ((g.2.2 60 0)), qi (((k : Nat) : Int))]) (lQ g (fun r σ' => σ' = σ ∧ r = S 1 k)) 0 0 (am_FA (gL g)) := by
  refine wq_start (cc := cL_target) (nL := 2) (ret := (some .int)) (by decide) rfl hI rfl (fun v hv => by simp only [List.mem_cons, List.not_mem_nil, or_false] at hv; rcases hv with rfl | rfl <;> rfl) (Nat.le_of_ble_eq_true rfl) ?_
  intro p e s m below meth c C hr hlk
  change wq g p l e (headSpec wsL_target ({ frames := 0, cells := 0, slots := 0, locals := 0 })).room s m ([.ref ((g.2.2 60 0)), qi (((k : Nat) : Int))] : List Value).toArray below meth c (0) (0) (MQ below (lQ g (fun r σ' => σ' = σ ∧ r = S 1 k)) ([.ref ((g.2.2 60 0)), qi (((k : Nat) : Int))] : List Value).toArray s 0 0 (am_FA (gL g))) (am_FA (gL g)) 2 0 [some (.ref ((g.2.2 60 0))), some (qi (((k : Nat) : Int)))] [] σ
  obtain ⟨e0, e1, e2, e3, ee⟩ := enc_f hw hk
  have hn24 := hw.2.1.2.1.2.2.2.2
  refine wq_aload_n C rfl dL_target_0 ?_
  refine wq_iload_n C rfl dL_target_1 ?_
  refine wq_iald C (k := 60) (n := 24) rfl (by decide) (by decide) (k) rfl (by omega) dL_target_2 ?_
  rw [ee]
  refine wq_iconst C dL_target_3 ?_
  refine wq_ishr C ((S 0 k + 16 * S 1 k + 256 * S 2 k + 65536 * S 3 k) / 16) (i_shr (by omega) (by omega) 4 (by decide) 16 rfl) dL_target_4 ?_
  refine wq_bipush C (n := 15) (by decide) dL_target_5 ?_
  refine wq_iand C (S 1 k) ((i_mask (by omega) 4 16 15 rfl rfl).trans (congrArg Int32.ofInt (by omega))) dL_target_7 ?_
  refine wq_iret C hr hlk (Nat.le_of_ble_eq_true rfl) (Nat.le_of_ble_eq_true rfl) dL_target_8 ?_
  exact ⟨rfl, rfl⟩

set_option maxRecDepth 100000 in
set_option maxHeartbeats 4000000 in
theorem w_packets (l : Launch) (hl : l.stackTraces = false) (g : am_g) (hI : am_inj (gL g)) (σ : am_M) (k : Nat)  (S : ab_S) (hw : lW S σ) (hk : (k : Int) < S 19 4) : Met l yL_packets wsL_packets ({ frames := 0, cells := 0, slots := 0, locals := 0 }) (lP g σ [.ref ((g.2.2 60 0)), qi (((k : Nat) : Int))]) (lQ g (fun r σ' => σ' = σ ∧ r = S 2 k)) 0 0 (am_FA (gL g)) := by
  refine wq_start (cc := cL_packets) (nL := 2) (ret := (some .int)) (by decide) rfl hI rfl (fun v hv => by simp only [List.mem_cons, List.not_mem_nil, or_false] at hv; rcases hv with rfl | rfl <;> rfl) (Nat.le_of_ble_eq_true rfl) ?_
  intro p e s m below meth c C hr hlk
  change wq g p l e (headSpec wsL_packets ({ frames := 0, cells := 0, slots := 0, locals := 0 })).room s m ([.ref ((g.2.2 60 0)), qi (((k : Nat) : Int))] : List Value).toArray below meth c (0) (0) (MQ below (lQ g (fun r σ' => σ' = σ ∧ r = S 2 k)) ([.ref ((g.2.2 60 0)), qi (((k : Nat) : Int))] : List Value).toArray s 0 0 (am_FA (gL g))) (am_FA (gL g)) 2 0 [some (.ref ((g.2.2 60 0))), some (qi (((k : Nat) : Int)))] [] σ
  obtain ⟨e0, e1, e2, e3, ee⟩ := enc_f hw hk
  have hn24 := hw.2.1.2.1.2.2.2.2
  refine wq_aload_n C rfl dL_packets_0 ?_
  refine wq_iload_n C rfl dL_packets_1 ?_
  refine wq_iald C (k := 60) (n := 24) rfl (by decide) (by decide) (k) rfl (by omega) dL_packets_2 ?_
  rw [ee]
  refine wq_bipush C (n := 8) (by decide) dL_packets_3 ?_
  refine wq_ishr C ((S 0 k + 16 * S 1 k + 256 * S 2 k + 65536 * S 3 k) / 256) (i_shr (by omega) (by omega) 8 (by decide) 256 rfl) dL_packets_5 ?_
  refine wq_sipush C (n := 255) (by decide) dL_packets_6 ?_
  refine wq_iand C (S 2 k) ((i_mask (by omega) 8 256 255 rfl rfl).trans (congrArg Int32.ofInt (by omega))) dL_packets_9 ?_
  refine wq_iret C hr hlk (Nat.le_of_ble_eq_true rfl) (Nat.le_of_ble_eq_true rfl) dL_packets_10 ?_
  exact ⟨rfl, rfl⟩

set_option maxRecDepth 100000 in
set_option maxHeartbeats 4000000 in
theorem w_start (l : Launch) (hl : l.stackTraces = false) (g : am_g) (hI : am_inj (gL g)) (σ : am_M) (k : Nat)  (S : ab_S) (hw : lW S σ) (hk : (k : Int) < S 19 4) : Met l yL_start wsL_start ({ frames := 0, cells := 0, slots := 0, locals := 0 }) (lP g σ [.ref ((g.2.2 60 0)), qi (((k : Nat) : Int))]) (lQ g (fun r σ' => σ' = σ ∧ r = S 3 k)) 0 0 (am_FA (gL g)) := by
  refine wq_start (cc := cL_start) (nL := 2) (ret := (some .int)) (by decide) rfl hI rfl (fun v hv => by simp only [List.mem_cons, List.not_mem_nil, or_false] at hv; rcases hv with rfl | rfl <;> rfl) (Nat.le_of_ble_eq_true rfl) ?_
  intro p e s m below meth c C hr hlk
  change wq g p l e (headSpec wsL_start ({ frames := 0, cells := 0, slots := 0, locals := 0 })).room s m ([.ref ((g.2.2 60 0)), qi (((k : Nat) : Int))] : List Value).toArray below meth c (0) (0) (MQ below (lQ g (fun r σ' => σ' = σ ∧ r = S 3 k)) ([.ref ((g.2.2 60 0)), qi (((k : Nat) : Int))] : List Value).toArray s 0 0 (am_FA (gL g))) (am_FA (gL g)) 2 0 [some (.ref ((g.2.2 60 0))), some (qi (((k : Nat) : Int)))] [] σ
  obtain ⟨e0, e1, e2, e3, ee⟩ := enc_f hw hk
  have hn24 := hw.2.1.2.1.2.2.2.2
  refine wq_aload_n C rfl dL_start_0 ?_
  refine wq_iload_n C rfl dL_start_1 ?_
  refine wq_iald C (k := 60) (n := 24) rfl (by decide) (by decide) (k) rfl (by omega) dL_start_2 ?_
  rw [ee]
  refine wq_bipush C (n := 16) (by decide) dL_start_3 ?_
  refine wq_ishr C (S 3 k) ((i_shr (by omega) (by omega) 16 (by decide) 65536 rfl).trans (congrArg Int32.ofInt (by omega))) dL_start_5 ?_
  refine wq_iret C hr hlk (Nat.le_of_ble_eq_true rfl) (Nat.le_of_ble_eq_true rfl) dL_start_6 ?_
  exact ⟨rfl, rfl⟩

set_option maxRecDepth 100000 in
set_option maxHeartbeats 4000000 in
theorem w_isFar (l : Launch) (hl : l.stackTraces = false) (g : am_g) (hI : am_inj (gL g)) (σ : am_M) (k : Nat)  (S : ab_S) (hw : lW S σ) (hk : (k : Int) < S 19 4) : Met l yL_isFar wsL_isFar ({ frames := 1, cells := 0, slots := 0, locals := 21 }) (lP g σ [.ref ((g.2.2 60 0)), qi (((k : Nat) : Int))]) (lQ g (fun r σ' => σ' = σ ∧ r = ab_1 (ab_far S k))) 0 0 (am_FA (gL g)) := by
  refine wq_start (cc := cL_isFar) (nL := 2) (ret := (some .boolean)) (by decide) rfl hI rfl (fun v hv => by simp only [List.mem_cons, List.not_mem_nil, or_false] at hv; rcases hv with rfl | rfl <;> rfl) (Nat.le_of_ble_eq_true rfl) ?_
  intro p e s m below meth c C hr hlk
  change wq g p l e (headSpec wsL_isFar ({ frames := 1, cells := 0, slots := 0, locals := 21 })).room s m ([.ref ((g.2.2 60 0)), qi (((k : Nat) : Int))] : List Value).toArray below meth c (0) (0) (MQ below (lQ g (fun r σ' => σ' = σ ∧ r = ab_1 (ab_far S k))) ([.ref ((g.2.2 60 0)), qi (((k : Nat) : Int))] : List Value).toArray s 0 0 (am_FA (gL g))) (am_FA (gL g)) 2 0 [some (.ref ((g.2.2 60 0))), some (qi (((k : Nat) : Int)))] [] σ
  obtain ⟨e0, e1, e2, e3, ee⟩ := enc_f hw hk
  have hn24 := hw.2.1.2.1.2.2.2.2
  refine wq_aload_n C rfl dL_isFar_0 ?_
  refine wq_iload_n C rfl dL_isFar_1 ?_
  refine wq_sI C (av := [.ref ((g.2.2 60 0)), qi (((k : Nat) : Int))]) (index := 81) (w_source l hl g hI σ k S hw hk) (va_cwS 2 C.1.2.2.2.2 gL_isFar_L_source rfl rfl rfl (by decide +kernel) ⟨Nat.le_of_ble_eq_true rfl, Nat.le_of_ble_eq_true rfl⟩) rfl rfl (Nat.le_of_ble_eq_true rfl) dL_isFar_2 ⟨(Nat.le_of_ble_eq_true rfl), (Nat.le_of_ble_eq_true rfl)⟩ (fun r2 σ2 hp2 => ?_)
  obtain ⟨hsg2, rfl⟩ := hp2
  rw [hsg2]
  refine wq_iconst C dL_isFar_5 ?_
  refine wq_idiv C (by omega) (by omega) dL_isFar_6 ?_
  refine wq_aload_n C rfl dL_isFar_7 ?_
  refine wq_iload_n C rfl dL_isFar_8 ?_
  refine wq_sI C (av := [.ref ((g.2.2 60 0)), qi (((k : Nat) : Int))]) (index := 87) (w_target l hl g hI σ k S hw hk) (va_cwS 2 C.1.2.2.2.2 gL_isFar_L_target rfl rfl rfl (by decide +kernel) ⟨Nat.le_of_ble_eq_true rfl, Nat.le_of_ble_eq_true rfl⟩) rfl rfl (Nat.le_of_ble_eq_true rfl) dL_isFar_9 ⟨(Nat.le_of_ble_eq_true rfl), (Nat.le_of_ble_eq_true rfl)⟩ (fun r9 σ9 hp9 => ?_)
  obtain ⟨hsg9, rfl⟩ := hp9
  rw [hsg9]
  refine wq_iconst C dL_isFar_12 ?_
  refine wq_idiv C (by omega) (by omega) dL_isFar_13 ?_
  refine wq_icmp_eq C 21 (by omega) (by omega) (by decide) dL_isFar_14 (fun hc14 => ?_) (fun hc14 => ?_)
  · skip
    refine wq_iconst C dL_isFar_21 ?_
    refine wq_zret C hr hlk (Nat.le_of_ble_eq_true rfl) (Nat.le_of_ble_eq_true rfl) (by omega) dL_isFar_22 ?_
    exact ⟨rfl, by simp [ab_far, ab_1, hc14]⟩
  · skip
    refine wq_iconst C dL_isFar_17 ?_
    refine wq_goto C 22 (by decide) dL_isFar_18 ?_
    refine wq_zret C hr hlk (Nat.le_of_ble_eq_true rfl) (Nat.le_of_ble_eq_true rfl) (by omega) dL_isFar_22 ?_
    exact ⟨rfl, by simp [ab_far, ab_1, hc14]⟩

/-- what the law makes of the flows, and of the links -/
def lfl (S : ab_S) : Nat → Int64
  | 0 => 31 * i64 (S 19 4) + 7 * i64 (S 19 3)
  | k + 1 => 1000003 * lfl S k + i64 (S 4 k) + 101 * i64 (S 5 k) + 10007 * i64 (S 6 k) + 5 * i64 (S 7 k) + 17 * i64 (S 9 k) + 1009 * i64 (S 10 k) + 3 * i64 (S 11 k)
def lli (S : ab_S) : Nat → Int64
  | 0 => 13 * i64 (ab_ret S) + i64 (ab_qd S)
  | k + 1 => 8191 * lli S k + i64 (S 14 k) + 5 * i64 (S 14 (16 + k)) + 25 * i64 (S 14 (32 + k)) + 125 * i64 (S 14 (48 + k)) + 625 * i64 (S 13 k) + 3125 * i64 (S 13 (32 + k)) + 20011 * i64 (S 16 k) + (if k / 4 = k % 4 then 0 else 7919 * i64 (ab_um S (k / 4) (k % 4)))

set_option maxRecDepth 100000 in
set_option maxHeartbeats 4000000 in
theorem w_flows (l : Launch) (hl : l.stackTraces = false) (g : am_g) (hI : am_inj (gL g)) (σ : am_M)  (S : ab_S) (b : Int) (hC : ab_C S σ) (hS : ab_I S b) : Met l yL_flows wsL_flows ({ frames := 3, cells := 0, slots := 0, locals := 64 }) (lP g σ [.ref ((g.2.2 0 0))]) (lQJ g (fun r σ' => σ' = σ ∧ r = lfl S (ab_n S))) 0 0 (am_FA (gL g)) := by
  refine wq_start (cc := cL_flows) (nL := 4) (ret := (some .long)) (by decide) rfl hI rfl (fun v hv => by rw [List.mem_singleton.mp hv]; rfl) (Nat.le_of_ble_eq_true rfl) ?_
  intro p e s m below meth c C hr hlk
  change wq g p l e (headSpec wsL_flows ({ frames := 3, cells := 0, slots := 0, locals := 64 })).room s m ([.ref ((g.2.2 0 0))] : List Value).toArray below meth c (0) (0) (MQ below (lQJ g (fun r σ' => σ' = σ ∧ r = lfl S (ab_n S))) ([.ref ((g.2.2 0 0))] : List Value).toArray s 0 0 (am_FA (gL g))) (am_FA (gL g)) 4 0 [some (.ref ((g.2.2 0 0))), none, none, none] [] σ
  have hn24 := hS.2.1.2.2.2.2
  have hn : ((ab_n S : Nat) : Int) = S 19 4 := Int.toNat_of_nonneg hn24.1
  refine wq_ldc2 C (index := 90) (v := 31) (by decide +kernel) dL_flows_0 ?_
  refine wq_aload_n C rfl dL_flows_3 ?_
  refine wq_cI C (av := []) (index := 92) (c_X5_flows l g (lC_inj hI) σ S b hC hS) (cwV 0 C.1.2.2.2.2 gL_flows_X5_flows rfl rfl rfl (by decide +kernel) ⟨Nat.le_of_ble_eq_true rfl, Nat.le_of_ble_eq_true rfl⟩) rfl rfl (Nat.le_of_ble_eq_true rfl) dL_flows_4 ⟨(Nat.le_of_ble_eq_true rfl), (Nat.le_of_ble_eq_true rfl)⟩ (fun r4 σ4 hp4 => ?_)
  obtain ⟨hsg4, hr4⟩ := hp4
  rw [hsg4, l_mix_s]
  obtain rfl : r4 = S 19 4 := hr4.trans (by first | rfl | (congr 1; omega))
  refine wq_i2l C dL_flows_7 ?_
  refine wq_lmul C dL_flows_8 ?_
  refine wq_ldc2 C (index := 96) (v := 7) (by decide +kernel) dL_flows_9 ?_
  refine wq_aload_n C rfl dL_flows_12 ?_
  refine wq_cI C (av := []) (index := 98) (c_X5_clock l g (lC_inj hI) σ S b hC hS) (cwV 0 C.1.2.2.2.2 gL_flows_X5_clock rfl rfl rfl (by decide +kernel) ⟨Nat.le_of_ble_eq_true rfl, Nat.le_of_ble_eq_true rfl⟩) rfl rfl (Nat.le_of_ble_eq_true rfl) dL_flows_13 ⟨(Nat.le_of_ble_eq_true rfl), (Nat.le_of_ble_eq_true rfl)⟩ (fun r13 σ13 hp13 => ?_)
  obtain ⟨hsg13, hr13⟩ := hp13
  rw [hsg13, l_mix_s]
  obtain rfl : r13 = S 19 3 := hr13.trans (by first | rfl | (congr 1; omega))
  refine wq_i2l C dL_flows_16 ?_
  refine wq_lmul C dL_flows_17 ?_
  refine wq_ladd C dL_flows_18 ?_
  refine wq_lstore_n C (by decide) (Nat.le_of_ble_eq_true rfl) rfl dL_flows_19 ?_
  refine wq_iconst C dL_flows_20 ?_
  refine wq_istore_n C (by decide) (Nat.le_of_ble_eq_true rfl) rfl dL_flows_21 ?_
  have hl22 : ∀ (d k : Nat), ab_n S + 1 ≤ k + d → k ≤ ab_n S → wq g p l e (headSpec wsL_flows ({ frames := 3, cells := 0, slots := 0, locals := 64 })).room s m ([.ref ((g.2.2 0 0))] : List Value).toArray below meth c (0) (0) (MQ below (lQJ g (fun r σ' => σ' = σ ∧ r = lfl S (ab_n S))) ([.ref ((g.2.2 0 0))] : List Value).toArray s 0 0 (am_FA (gL g))) (am_FA (gL g)) 4 22 [some (.ref ((g.2.2 0 0))), some (.long (lfl S k)), none, some (qi (((k : Nat) : Int)))] [] σ := by
    intro d
    induction d with
    | zero => intro k h1 h2; omega
    | succ d ih =>
      intro k h1 h2
      refine wq_iload_n C rfl dL_flows_22 ?_
      refine wq_aload_n C rfl dL_flows_23 ?_
      refine wq_cI C (av := []) (index := 92) (c_X5_flows l g (lC_inj hI) σ S b hC hS) (cwV 0 C.1.2.2.2.2 gL_flows_X5_flows rfl rfl rfl (by decide +kernel) ⟨Nat.le_of_ble_eq_true rfl, Nat.le_of_ble_eq_true rfl⟩) rfl rfl (Nat.le_of_ble_eq_true rfl) dL_flows_24 ⟨(Nat.le_of_ble_eq_true rfl), (Nat.le_of_ble_eq_true rfl)⟩ (fun r24 σ24 hp24 => ?_)
      obtain ⟨hsg24, hr24⟩ := hp24
      rw [hsg24, l_mix_s]
      obtain rfl : r24 = S 19 4 := hr24.trans (by first | rfl | (congr 1; omega))
      refine wq_icmp_ge C 115 (by omega) (by omega) (by decide) dL_flows_27 (fun hc27 => ?_) (fun hc27 => ?_)
      · skip
        refine wq_lload_n C rfl dL_flows_115 ?_
        refine wq_lret C hr hlk (Nat.le_of_ble_eq_true rfl) (Nat.le_of_ble_eq_true rfl) dL_flows_116 ?_
        obtain rfl : k = ab_n S := by omega
        exact ⟨rfl, rfl⟩
      · skip
        refine wq_ldc2 C (index := 101) (v := 1000003) (by decide +kernel) dL_flows_30 ?_
        refine wq_lload_n C rfl dL_flows_33 ?_
        refine wq_lmul C dL_flows_34 ?_
        refine wq_aload_n C rfl dL_flows_35 ?_
        refine wq_iload_n C rfl dL_flows_36 ?_
        refine wq_cI C (av := [.inl (((k : Nat) : Int))]) (index := 34) (z_X5_sent l g (lC_inj hI) σ (((k : Nat) : Int)) S b hC hS (by omega)) (cwV 1 C.1.2.2.2.2 gL_flows_X5_sent rfl rfl rfl (by decide +kernel) ⟨Nat.le_of_ble_eq_true rfl, Nat.le_of_ble_eq_true rfl⟩) rfl rfl (Nat.le_of_ble_eq_true rfl) dL_flows_37 ⟨(Nat.le_of_ble_eq_true rfl), (Nat.le_of_ble_eq_true rfl)⟩ (fun r37 σ37 hp37 => ?_)
        obtain ⟨hsg37, hr37⟩ := hp37
        rw [hsg37, l_mix_s]
        obtain rfl : r37 = S 4 k := hr37.trans (by first | rfl | (congr 1; omega))
        refine wq_i2l C dL_flows_40 ?_
        refine wq_ladd C dL_flows_41 ?_
        refine wq_ldc2 C (index := 103) (v := 101) (by decide +kernel) dL_flows_42 ?_
        refine wq_aload_n C rfl dL_flows_45 ?_
        refine wq_iload_n C rfl dL_flows_46 ?_
        refine wq_cI C (av := [.inl (((k : Nat) : Int))]) (index := 37) (z_X5_delivered l g (lC_inj hI) σ (((k : Nat) : Int)) S b hC hS (by omega)) (cwV 1 C.1.2.2.2.2 gL_flows_X5_delivered rfl rfl rfl (by decide +kernel) ⟨Nat.le_of_ble_eq_true rfl, Nat.le_of_ble_eq_true rfl⟩) rfl rfl (Nat.le_of_ble_eq_true rfl) dL_flows_47 ⟨(Nat.le_of_ble_eq_true rfl), (Nat.le_of_ble_eq_true rfl)⟩ (fun r47 σ47 hp47 => ?_)
        obtain ⟨hsg47, hr47⟩ := hp47
        rw [hsg47, l_mix_s]
        obtain rfl : r47 = S 5 k := hr47.trans (by first | rfl | (congr 1; omega))
        refine wq_i2l C dL_flows_50 ?_
        refine wq_lmul C dL_flows_51 ?_
        refine wq_ladd C dL_flows_52 ?_
        refine wq_ldc2 C (index := 105) (v := 10007) (by decide +kernel) dL_flows_53 ?_
        refine wq_aload_n C rfl dL_flows_56 ?_
        refine wq_iload_n C rfl dL_flows_57 ?_
        refine wq_cI C (av := [.inl (((k : Nat) : Int))]) (index := 40) (z_X5_lost l g (lC_inj hI) σ (((k : Nat) : Int)) S b hC hS (by omega)) (cwV 1 C.1.2.2.2.2 gL_flows_X5_lost rfl rfl rfl (by decide +kernel) ⟨Nat.le_of_ble_eq_true rfl, Nat.le_of_ble_eq_true rfl⟩) rfl rfl (Nat.le_of_ble_eq_true rfl) dL_flows_58 ⟨(Nat.le_of_ble_eq_true rfl), (Nat.le_of_ble_eq_true rfl)⟩ (fun r58 σ58 hp58 => ?_)
        obtain ⟨hsg58, hr58⟩ := hp58
        rw [hsg58, l_mix_s]
        obtain rfl : r58 = S 6 k := hr58.trans (by first | rfl | (congr 1; omega))
        refine wq_i2l C dL_flows_61 ?_
        refine wq_lmul C dL_flows_62 ?_
        refine wq_ladd C dL_flows_63 ?_
        refine wq_ldc2 C (index := 107) (v := 5) (by decide +kernel) dL_flows_64 ?_
        refine wq_aload_n C rfl dL_flows_67 ?_
        refine wq_iload_n C rfl dL_flows_68 ?_
        refine wq_cI C (av := [.inl (((k : Nat) : Int))]) (index := 43) (z_X5_outOfOrder l g (lC_inj hI) σ (((k : Nat) : Int)) S b hC hS (by omega)) (cwV 1 C.1.2.2.2.2 gL_flows_X5_outOfOrder rfl rfl rfl (by decide +kernel) ⟨Nat.le_of_ble_eq_true rfl, Nat.le_of_ble_eq_true rfl⟩) rfl rfl (Nat.le_of_ble_eq_true rfl) dL_flows_69 ⟨(Nat.le_of_ble_eq_true rfl), (Nat.le_of_ble_eq_true rfl)⟩ (fun r69 σ69 hp69 => ?_)
        obtain ⟨hsg69, hr69⟩ := hp69
        rw [hsg69, l_mix_s]
        obtain rfl : r69 = S 7 k := hr69.trans (by first | rfl | (congr 1; omega))
        refine wq_i2l C dL_flows_72 ?_
        refine wq_lmul C dL_flows_73 ?_
        refine wq_ladd C dL_flows_74 ?_
        refine wq_ldc2 C (index := 109) (v := 17) (by decide +kernel) dL_flows_75 ?_
        refine wq_aload_n C rfl dL_flows_78 ?_
        refine wq_iload_n C rfl dL_flows_79 ?_
        refine wq_cI C (av := [.inl (((k : Nat) : Int))]) (index := 46) (z_X5_doneIn l g (lC_inj hI) σ (((k : Nat) : Int)) S b hC hS (by omega)) (cwV 1 C.1.2.2.2.2 gL_flows_X5_doneIn rfl rfl rfl (by decide +kernel) ⟨Nat.le_of_ble_eq_true rfl, Nat.le_of_ble_eq_true rfl⟩) rfl rfl (Nat.le_of_ble_eq_true rfl) dL_flows_80 ⟨(Nat.le_of_ble_eq_true rfl), (Nat.le_of_ble_eq_true rfl)⟩ (fun r80 σ80 hp80 => ?_)
        obtain ⟨hsg80, hr80⟩ := hp80
        rw [hsg80, l_mix_s]
        obtain rfl : r80 = S 9 k := hr80.trans (by first | rfl | (congr 1; omega))
        refine wq_i2l C dL_flows_83 ?_
        refine wq_lmul C dL_flows_84 ?_
        refine wq_ladd C dL_flows_85 ?_
        refine wq_ldc2 C (index := 111) (v := 1009) (by decide +kernel) dL_flows_86 ?_
        refine wq_aload_n C rfl dL_flows_89 ?_
        refine wq_iload_n C rfl dL_flows_90 ?_
        refine wq_cI C (av := [.inl (((k : Nat) : Int))]) (index := 49) (z_X5_flowlets l g (lC_inj hI) σ (((k : Nat) : Int)) S b hC hS (by omega)) (cwV 1 C.1.2.2.2.2 gL_flows_X5_flowlets rfl rfl rfl (by decide +kernel) ⟨Nat.le_of_ble_eq_true rfl, Nat.le_of_ble_eq_true rfl⟩) rfl rfl (Nat.le_of_ble_eq_true rfl) dL_flows_91 ⟨(Nat.le_of_ble_eq_true rfl), (Nat.le_of_ble_eq_true rfl)⟩ (fun r91 σ91 hp91 => ?_)
        obtain ⟨hsg91, hr91⟩ := hp91
        rw [hsg91, l_mix_s]
        obtain rfl : r91 = S 10 k := hr91.trans (by first | rfl | (congr 1; omega))
        refine wq_i2l C dL_flows_94 ?_
        refine wq_lmul C dL_flows_95 ?_
        refine wq_ladd C dL_flows_96 ?_
        refine wq_ldc2 C (index := 113) (v := 3) (by decide +kernel) dL_flows_97 ?_
        refine wq_aload_n C rfl dL_flows_100 ?_
        refine wq_iload_n C rfl dL_flows_101 ?_
        refine wq_cI C (av := [.inl (((k : Nat) : Int))]) (index := 52) (z_X5_spineOf l g (lC_inj hI) σ (((k : Nat) : Int)) S b hC hS (by omega)) (cwV 1 C.1.2.2.2.2 gL_flows_X5_spineOf rfl rfl rfl (by decide +kernel) ⟨Nat.le_of_ble_eq_true rfl, Nat.le_of_ble_eq_true rfl⟩) rfl rfl (Nat.le_of_ble_eq_true rfl) dL_flows_102 ⟨(Nat.le_of_ble_eq_true rfl), (Nat.le_of_ble_eq_true rfl)⟩ (fun r102 σ102 hp102 => ?_)
        obtain ⟨hsg102, hr102⟩ := hp102
        rw [hsg102, l_mix_s]
        obtain rfl : r102 = S 11 k := hr102.trans (by first | rfl | (congr 1; omega))
        refine wq_i2l C dL_flows_105 ?_
        refine wq_lmul C dL_flows_106 ?_
        refine wq_ladd C dL_flows_107 ?_
        refine wq_lstore_n C (by decide) (Nat.le_of_ble_eq_true rfl) rfl dL_flows_108 ?_
        refine wq_iinc C rfl (by decide) rfl dL_flows_109 ?_
        refine wq_goto C 22 (by decide) dL_flows_112 ?_
        exact ih (k + 1) (by omega) (by omega)
  exact hl22 (ab_n S + 1) 0 (by omega) (by omega)

set_option maxRecDepth 100000 in
set_option maxHeartbeats 4000000 in
theorem w_links (l : Launch) (hl : l.stackTraces = false) (g : am_g) (hI : am_inj (gL g)) (σ : am_M)  (S : ab_S) (b : Int) (hC : ab_C S σ) (hS : ab_I S b) : Met l yL_links wsL_links ({ frames := 3, cells := 0, slots := 0, locals := 65 }) (lP g σ [.ref ((g.2.2 0 0))]) (lQJ g (fun r σ' => σ' = σ ∧ r = lli S 16)) 0 0 (am_FA (gL g)) := by
  refine wq_start (cc := cL_links) (nL := 4) (ret := (some .long)) (by decide) rfl hI rfl (fun v hv => by rw [List.mem_singleton.mp hv]; rfl) (Nat.le_of_ble_eq_true rfl) ?_
  intro p e s m below meth c C hr hlk
  change wq g p l e (headSpec wsL_links ({ frames := 3, cells := 0, slots := 0, locals := 65 })).room s m ([.ref ((g.2.2 0 0))] : List Value).toArray below meth c (0) (0) (MQ below (lQJ g (fun r σ' => σ' = σ ∧ r = lli S 16)) ([.ref ((g.2.2 0 0))] : List Value).toArray s 0 0 (am_FA (gL g))) (am_FA (gL g)) 4 0 [some (.ref ((g.2.2 0 0))), none, none, none] [] σ
  refine wq_ldc2 C (index := 115) (v := 13) (by decide +kernel) dL_links_0 ?_
  refine wq_aload_n C rfl dL_links_3 ?_
  refine wq_cI C (av := []) (index := 117) (c_X5_returning l g (lC_inj hI) σ S b hC hS) (cwV 0 C.1.2.2.2.2 gL_links_X5_returning rfl rfl rfl (by decide +kernel) ⟨Nat.le_of_ble_eq_true rfl, Nat.le_of_ble_eq_true rfl⟩) rfl rfl (Nat.le_of_ble_eq_true rfl) dL_links_4 ⟨(Nat.le_of_ble_eq_true rfl), (Nat.le_of_ble_eq_true rfl)⟩ (fun r4 σ4 hp4 => ?_)
  obtain ⟨hsg4, hr4⟩ := hp4
  rw [hsg4, l_mix_s]
  obtain rfl : r4 = ab_ret S := hr4.trans (by first | rfl | (congr 1; omega))
  refine wq_i2l C dL_links_7 ?_
  refine wq_lmul C dL_links_8 ?_
  refine wq_aload_n C rfl dL_links_9 ?_
  refine wq_cI C (av := []) (index := 120) (c_X5_queued l g (lC_inj hI) σ S b hC hS) (cwV 0 C.1.2.2.2.2 gL_links_X5_queued rfl rfl rfl (by decide +kernel) ⟨Nat.le_of_ble_eq_true rfl, Nat.le_of_ble_eq_true rfl⟩) rfl rfl (Nat.le_of_ble_eq_true rfl) dL_links_10 ⟨(Nat.le_of_ble_eq_true rfl), (Nat.le_of_ble_eq_true rfl)⟩ (fun r10 σ10 hp10 => ?_)
  obtain ⟨hsg10, hr10⟩ := hp10
  rw [hsg10, l_mix_s]
  obtain rfl : r10 = ab_qd S := hr10.trans (by first | rfl | (congr 1; omega))
  refine wq_i2l C dL_links_13 ?_
  refine wq_ladd C dL_links_14 ?_
  refine wq_lstore_n C (by decide) (Nat.le_of_ble_eq_true rfl) rfl dL_links_15 ?_
  refine wq_iconst C dL_links_16 ?_
  refine wq_istore_n C (by decide) (Nat.le_of_ble_eq_true rfl) rfl dL_links_17 ?_
  have hl18 : ∀ (d k : Nat), 17 ≤ k + d → k ≤ 16 → wq g p l e (headSpec wsL_links ({ frames := 3, cells := 0, slots := 0, locals := 65 })).room s m ([.ref ((g.2.2 0 0))] : List Value).toArray below meth c (0) (0) (MQ below (lQJ g (fun r σ' => σ' = σ ∧ r = lli S 16)) ([.ref ((g.2.2 0 0))] : List Value).toArray s 0 0 (am_FA (gL g))) (am_FA (gL g)) 4 18 [some (.ref ((g.2.2 0 0))), some (.long (lli S k)), none, some (qi (((k : Nat) : Int)))] [] σ := by
    intro d
    induction d with
    | zero => intro k h1 h2; omega
    | succ d ih =>
      intro k h1 h2
      refine wq_iload_n C rfl dL_links_18 ?_
      refine wq_bipush C (n := 16) (by decide) dL_links_19 ?_
      refine wq_icmp_ge C 153 (by omega) (by omega) (by decide) dL_links_21 (fun hc21 => ?_) (fun hc21 => ?_)
      · skip
        refine wq_lload_n C rfl dL_links_153 ?_
        refine wq_lret C hr hlk (Nat.le_of_ble_eq_true rfl) (Nat.le_of_ble_eq_true rfl) dL_links_154 ?_
        obtain rfl : k = 16 := by omega
        exact ⟨rfl, rfl⟩
      · skip
        refine wq_ldc2 C (index := 123) (v := 8191) (by decide +kernel) dL_links_24 ?_
        refine wq_lload_n C rfl dL_links_27 ?_
        refine wq_lmul C dL_links_28 ?_
        refine wq_aload_n C rfl dL_links_29 ?_
        refine wq_iload_n C rfl dL_links_30 ?_
        refine wq_cI C (av := [.inl (((k : Nat) : Int))]) (index := 57) (z_X5_upQueue l g (lC_inj hI) σ (((k : Nat) : Int)) S b hC hS (by omega)) (cwV 1 C.1.2.2.2.2 gL_links_X5_upQueue rfl rfl rfl (by decide +kernel) ⟨Nat.le_of_ble_eq_true rfl, Nat.le_of_ble_eq_true rfl⟩) rfl rfl (Nat.le_of_ble_eq_true rfl) dL_links_31 ⟨(Nat.le_of_ble_eq_true rfl), (Nat.le_of_ble_eq_true rfl)⟩ (fun r31 σ31 hp31 => ?_)
        obtain ⟨hsg31, hr31⟩ := hp31
        rw [hsg31, l_mix_s]
        obtain rfl : r31 = S 14 k := hr31.trans (by first | rfl | (congr 1; omega))
        refine wq_i2l C dL_links_34 ?_
        refine wq_ladd C dL_links_35 ?_
        refine wq_ldc2 C (index := 107) (v := 5) (by decide +kernel) dL_links_36 ?_
        refine wq_aload_n C rfl dL_links_39 ?_
        refine wq_iload_n C rfl dL_links_40 ?_
        refine wq_cI C (av := [.inl (((k : Nat) : Int))]) (index := 60) (z_X5_downQueue l g (lC_inj hI) σ (((k : Nat) : Int)) S b hC hS (by omega)) (cwV 1 C.1.2.2.2.2 gL_links_X5_downQueue rfl rfl rfl (by decide +kernel) ⟨Nat.le_of_ble_eq_true rfl, Nat.le_of_ble_eq_true rfl⟩) rfl rfl (Nat.le_of_ble_eq_true rfl) dL_links_41 ⟨(Nat.le_of_ble_eq_true rfl), (Nat.le_of_ble_eq_true rfl)⟩ (fun r41 σ41 hp41 => ?_)
        obtain ⟨hsg41, hr41⟩ := hp41
        rw [hsg41, l_mix_s]
        obtain rfl : r41 = S 14 (16 + k) := hr41.trans (by first | rfl | (congr 1; omega))
        refine wq_i2l C dL_links_44 ?_
        refine wq_lmul C dL_links_45 ?_
        refine wq_ladd C dL_links_46 ?_
        refine wq_ldc2 C (index := 125) (v := 25) (by decide +kernel) dL_links_47 ?_
        refine wq_aload_n C rfl dL_links_50 ?_
        refine wq_iload_n C rfl dL_links_51 ?_
        refine wq_iconst C dL_links_52 ?_
        refine wq_idiv C (by omega) (by omega) dL_links_53 ?_
        refine wq_iload_n C rfl dL_links_54 ?_
        refine wq_iconst C dL_links_55 ?_
        refine wq_irem C (by omega) (by omega) dL_links_56 ?_
        refine wq_cI C (av := [.inl ((((k : Nat) : Int)) / (4)), .inl ((((k : Nat) : Int)) % (4))]) (index := 69) (z_X5_northQueue l g (lC_inj hI) σ ((((k : Nat) : Int)) / (4)) ((((k : Nat) : Int)) % (4)) S b hC hS (by omega)) (cwV 2 C.1.2.2.2.2 gL_links_X5_northQueue rfl rfl rfl (by decide +kernel) ⟨Nat.le_of_ble_eq_true rfl, Nat.le_of_ble_eq_true rfl⟩) rfl rfl (Nat.le_of_ble_eq_true rfl) dL_links_57 ⟨(Nat.le_of_ble_eq_true rfl), (Nat.le_of_ble_eq_true rfl)⟩ (fun r57 σ57 hp57 => ?_)
        obtain ⟨hsg57, hr57⟩ := hp57
        rw [hsg57, l_mix_s]
        obtain rfl : r57 = S 14 (32 + k) := hr57.trans (by first | rfl | (congr 1; omega))
        refine wq_i2l C dL_links_60 ?_
        refine wq_lmul C dL_links_61 ?_
        refine wq_ladd C dL_links_62 ?_
        refine wq_ldc2 C (index := 127) (v := 125) (by decide +kernel) dL_links_63 ?_
        refine wq_aload_n C rfl dL_links_66 ?_
        refine wq_iload_n C rfl dL_links_67 ?_
        refine wq_iconst C dL_links_68 ?_
        refine wq_idiv C (by omega) (by omega) dL_links_69 ?_
        refine wq_iload_n C rfl dL_links_70 ?_
        refine wq_iconst C dL_links_71 ?_
        refine wq_irem C (by omega) (by omega) dL_links_72 ?_
        refine wq_cI C (av := [.inl ((((k : Nat) : Int)) / (4)), .inl ((((k : Nat) : Int)) % (4))]) (index := 72) (z_X5_southQueue l g (lC_inj hI) σ ((((k : Nat) : Int)) / (4)) ((((k : Nat) : Int)) % (4)) S b hC hS (by omega)) (cwV 2 C.1.2.2.2.2 gL_links_X5_southQueue rfl rfl rfl (by decide +kernel) ⟨Nat.le_of_ble_eq_true rfl, Nat.le_of_ble_eq_true rfl⟩) rfl rfl (Nat.le_of_ble_eq_true rfl) dL_links_73 ⟨(Nat.le_of_ble_eq_true rfl), (Nat.le_of_ble_eq_true rfl)⟩ (fun r73 σ73 hp73 => ?_)
        obtain ⟨hsg73, hr73⟩ := hp73
        rw [hsg73, l_mix_s]
        obtain rfl : r73 = S 14 (48 + k) := hr73.trans (by first | rfl | (congr 1; omega))
        refine wq_i2l C dL_links_76 ?_
        refine wq_lmul C dL_links_77 ?_
        refine wq_ladd C dL_links_78 ?_
        refine wq_ldc2 C (index := 129) (v := 625) (by decide +kernel) dL_links_79 ?_
        refine wq_aload_n C rfl dL_links_82 ?_
        refine wq_iload_n C rfl dL_links_83 ?_
        refine wq_cI C (av := [.inl (((k : Nat) : Int))]) (index := 63) (z_X5_upCredits l g (lC_inj hI) σ (((k : Nat) : Int)) S b hC hS (by omega)) (cwV 1 C.1.2.2.2.2 gL_links_X5_upCredits rfl rfl rfl (by decide +kernel) ⟨Nat.le_of_ble_eq_true rfl, Nat.le_of_ble_eq_true rfl⟩) rfl rfl (Nat.le_of_ble_eq_true rfl) dL_links_84 ⟨(Nat.le_of_ble_eq_true rfl), (Nat.le_of_ble_eq_true rfl)⟩ (fun r84 σ84 hp84 => ?_)
        obtain ⟨hsg84, hr84⟩ := hp84
        rw [hsg84, l_mix_s]
        obtain rfl : r84 = S 13 k := hr84.trans (by first | rfl | (congr 1; omega))
        refine wq_i2l C dL_links_87 ?_
        refine wq_lmul C dL_links_88 ?_
        refine wq_ladd C dL_links_89 ?_
        refine wq_ldc2 C (index := 131) (v := 3125) (by decide +kernel) dL_links_90 ?_
        refine wq_aload_n C rfl dL_links_93 ?_
        refine wq_iload_n C rfl dL_links_94 ?_
        refine wq_iconst C dL_links_95 ?_
        refine wq_idiv C (by omega) (by omega) dL_links_96 ?_
        refine wq_iload_n C rfl dL_links_97 ?_
        refine wq_iconst C dL_links_98 ?_
        refine wq_irem C (by omega) (by omega) dL_links_99 ?_
        refine wq_cI C (av := [.inl ((((k : Nat) : Int)) / (4)), .inl ((((k : Nat) : Int)) % (4))]) (index := 75) (z_X5_northCredits l g (lC_inj hI) σ ((((k : Nat) : Int)) / (4)) ((((k : Nat) : Int)) % (4)) S b hC hS (by omega)) (cwV 2 C.1.2.2.2.2 gL_links_X5_northCredits rfl rfl rfl (by decide +kernel) ⟨Nat.le_of_ble_eq_true rfl, Nat.le_of_ble_eq_true rfl⟩) rfl rfl (Nat.le_of_ble_eq_true rfl) dL_links_100 ⟨(Nat.le_of_ble_eq_true rfl), (Nat.le_of_ble_eq_true rfl)⟩ (fun r100 σ100 hp100 => ?_)
        obtain ⟨hsg100, hr100⟩ := hp100
        rw [hsg100, l_mix_s]
        obtain rfl : r100 = S 13 (32 + k) := hr100.trans (by first | rfl | (congr 1; omega))
        refine wq_i2l C dL_links_103 ?_
        refine wq_lmul C dL_links_104 ?_
        refine wq_ladd C dL_links_105 ?_
        refine wq_ldc2 C (index := 133) (v := 20011) (by decide +kernel) dL_links_106 ?_
        refine wq_aload_n C rfl dL_links_109 ?_
        refine wq_iload_n C rfl dL_links_110 ?_
        refine wq_cI C (av := [.inl (((k : Nat) : Int))]) (index := 66) (z_X5_open l g (lC_inj hI) σ (((k : Nat) : Int)) S b hC hS (by omega)) (cwV 1 C.1.2.2.2.2 gL_links_X5_open rfl rfl rfl (by decide +kernel) ⟨Nat.le_of_ble_eq_true rfl, Nat.le_of_ble_eq_true rfl⟩) rfl rfl (Nat.le_of_ble_eq_true rfl) dL_links_111 ⟨(Nat.le_of_ble_eq_true rfl), (Nat.le_of_ble_eq_true rfl)⟩ (fun r111 σ111 hp111 => ?_)
        obtain ⟨hsg111, hr111⟩ := hp111
        rw [hsg111, l_mix_s]
        obtain rfl : r111 = S 16 k := hr111.trans (by first | rfl | (congr 1; omega))
        refine wq_i2l C dL_links_114 ?_
        refine wq_lmul C dL_links_115 ?_
        refine wq_ladd C dL_links_116 ?_
        refine wq_iload_n C rfl dL_links_117 ?_
        refine wq_iconst C dL_links_118 ?_
        refine wq_idiv C (by omega) (by omega) dL_links_119 ?_
        refine wq_iload_n C rfl dL_links_120 ?_
        refine wq_iconst C dL_links_121 ?_
        refine wq_irem C (by omega) (by omega) dL_links_122 ?_
        refine wq_icmp_ne C 130 (by omega) (by omega) (by decide) dL_links_123 (fun hc123 => ?_) (fun hc123 => ?_)
        · skip
          refine wq_ldc2 C (index := 135) (v := 7919) (by decide +kernel) dL_links_130 ?_
          refine wq_aload_n C rfl dL_links_133 ?_
          refine wq_iload_n C rfl dL_links_134 ?_
          refine wq_iconst C dL_links_135 ?_
          refine wq_idiv C (by omega) (by omega) dL_links_136 ?_
          refine wq_iload_n C rfl dL_links_137 ?_
          refine wq_iconst C dL_links_138 ?_
          refine wq_irem C (by omega) (by omega) dL_links_139 ?_
          refine wq_cI C (av := [.inl ((((k : Nat) : Int)) / (4)), .inl ((((k : Nat) : Int)) % (4))]) (index := 78) (z_X5_usable l g (lC_inj hI) σ ((((k : Nat) : Int)) / (4)) ((((k : Nat) : Int)) % (4)) S b hC hS (by omega)) (cwV 2 C.1.2.2.2.2 gL_links_X5_usable rfl rfl rfl (by decide +kernel) ⟨Nat.le_of_ble_eq_true rfl, Nat.le_of_ble_eq_true rfl⟩) rfl rfl (Nat.le_of_ble_eq_true rfl) dL_links_140 ⟨(Nat.le_of_ble_eq_true rfl), (Nat.le_of_ble_eq_true rfl)⟩ (fun r140 σ140 hp140 => ?_)
          obtain ⟨hsg140, hr140⟩ := hp140
          rw [hsg140, l_mix_s]
          obtain rfl : r140 = ab_um S (k / 4) (k % 4) := hr140.trans (by first | rfl | (congr 1; omega))
          refine wq_i2l C dL_links_143 ?_
          refine wq_lmul C dL_links_144 ?_
          refine wq_ladd C dL_links_145 ?_
          refine wq_lstore_n C (by decide) (Nat.le_of_ble_eq_true rfl) rfl dL_links_146 ?_
          refine wq_iinc C rfl (by decide) rfl dL_links_147 ?_
          refine wq_goto C 18 (by decide) dL_links_150 ?_
          have hag : ((((((((((8191 : Int64)) * (lli S k)) + (i64 (S 14 k))) + (((5 : Int64)) * (i64 (S 14 (16 + k))))) + (((25 : Int64)) * (i64 (S 14 (32 + k))))) + (((125 : Int64)) * (i64 (S 14 (48 + k))))) + (((625 : Int64)) * (i64 (S 13 k)))) + (((3125 : Int64)) * (i64 (S 13 (32 + k))))) + (((20011 : Int64)) * (i64 (S 16 k)))) + (((7919 : Int64)) * (i64 (ab_um S (k / 4) (k % 4)))) = lli S (k + 1) := by
            rw [lli]
            first | rw [if_pos (by omega)] | rw [if_neg (by omega)]
          rw [hag]
          exact ih (k + 1) (by omega) (by omega)
        · skip
          refine wq_lconst C (v := 0) rfl dL_links_126 ?_
          refine wq_goto C 145 (by decide) dL_links_127 ?_
          refine wq_ladd C dL_links_145 ?_
          refine wq_lstore_n C (by decide) (Nat.le_of_ble_eq_true rfl) rfl dL_links_146 ?_
          refine wq_iinc C rfl (by decide) rfl dL_links_147 ?_
          refine wq_goto C 18 (by decide) dL_links_150 ?_
          have hag : ((((((((((8191 : Int64)) * (lli S k)) + (i64 (S 14 k))) + (((5 : Int64)) * (i64 (S 14 (16 + k))))) + (((25 : Int64)) * (i64 (S 14 (32 + k))))) + (((125 : Int64)) * (i64 (S 14 (48 + k))))) + (((625 : Int64)) * (i64 (S 13 k)))) + (((3125 : Int64)) * (i64 (S 13 (32 + k))))) + (((20011 : Int64)) * (i64 (S 16 k)))) + (0) = lli S (k + 1) := by
            rw [lli]
            first | rw [if_pos (by omega)] | rw [if_neg (by omega)]
          rw [hag]
          exact ih (k + 1) (by omega) (by omega)
  exact hl18 17 0 (by omega) (by omega)
