/-! the law's cases, one by one -/
theorem lK_12 (E : String) : 0 ≤ lK E ∧ lK E ≤ 2 := by unfold lK; split <;> omega
theorem u_comm (S : ab_S) (q : Nat) (x y : Int) : ab_u (ab_u S 19 5 y) 18 q x = ab_u (ab_u S 18 q x) 19 5 y := by
  funext f i
  simp only [ab_u_app]
  by_cases h1 : f = 18 ∧ i = q
  · rw [if_pos h1, if_neg (by omega), if_pos h1]
  · rw [if_neg h1, if_neg h1]
theorem tick_195 (S : ab_S) : ab_tick S 19 5 = S 19 5 := by
  have ho := tick_o S
  unfold ab_tick
  rw [ab_u_app, if_neg (by omega), MS_o (by omega)]
  exact ho.2.2.2 5
theorem pass_195 (S : ab_S) : ∀ n : Nat, ab_pass S n 19 5 = S 19 5
  | 0 => rfl
  | n + 1 => by rw [ab_pass, tick_195, pass_195 S n]
theorem lE_reset {S : ab_S} {σ ρ σ' ρ' : am_M} {v v' : Int64} {k p1 p2 p3 : Int} (h : lI S σ ρ)
    (hw : (k = 0 ∧ v' = v ∧ (ab_okR p1 p2 p3 ∧ ab_C (ab_new0 p1 p2 p3) σ')) ∨ (∃ E, (E = "java/lang/IllegalArgumentException" ∧ ¬ ab_okR p1 p2 p3) ∧ σ' = σ ∧ v' = v ∧ k = lK E))
    (hm : (ab_okR p1 p2 p3 ∧ ab_R (ab_new0 p1 p2 p3) ρ') ∨ (¬ ab_okR p1 p2 p3 ∧ ab_R (ab_u S 19 5 1) ρ')) : (∃ S', lI S' σ' ρ') ∧ ρ' 20 0 35 = k := by
  rcases hw with ⟨rfl, rfl, hB, hC⟩ | ⟨E, ⟨rfl, hB⟩, rfl, rfl, rfl⟩
  · rcases hm with ⟨-, hR⟩ | ⟨hn, -⟩
    · have e3 : ab_new0 p1 p2 p3 19 3 = 0 := by simp [ab_new0]
      have hi : lI (ab_new0 p1 p2 p3) σ' ρ' := ⟨hC, hR, by rw [e3]; exact I_new0 hB, J_new0 p1 p2 p3, by rw [e3]; omega, by rw [e3]; omega⟩
      exact ⟨⟨_, hi⟩, (lI_35 hi).trans (by simp [ab_new0])⟩
    · exact absurd hB hn
  · rcases hm with ⟨hB2, -⟩ | ⟨-, hR⟩
    · exact absurd hB2 hB
    · have hi := lI_th h hR
      exact ⟨⟨_, hi⟩, ((lI_35 hi).trans (by simp [ab_u_app])).trans lK_IA.symm⟩
theorem lI_n5 {S : ab_S} {p1 : Int} (hD : ab_u S 19 5 0 19 3 + p1 ≤ 100000) (hB : 1 ≤ p1 ∧ p1 ≤ 200) : S 19 3 + (p1.toNat : Int) ≤ 100000 := by
  have e5 : ab_u S 19 5 0 19 3 = S 19 3 := by simp [ab_u_app]
  rw [e5] at hD
  omega
/-- the state with nothing thrown -/
theorem lI_0 {S : ab_S} {σ ρ : am_M} (h : lI S σ ρ) : ab_C (ab_u S 19 5 0) σ ∧ ab_I (ab_u S 19 5 0) (48 * S 19 3) ∧ ab_J (ab_u S 19 5 0) := ⟨C_th h.1 0, I_th h.2.2.1 0, J_th h.2.2.2.1 0⟩
theorem lI_cut {S : ab_S} {σ ρ σ' ρ' : am_M} {q : Nat} {x : Int} (hx : x = 0 ∨ x = 1) (h : lI S σ ρ) (hC : ab_C (ab_u (ab_u S 19 5 0) 18 q x) σ') (hR : ab_R (ab_u (ab_u S 19 5 0) 18 q x) ρ') : lI (ab_u (ab_u S 19 5 0) 18 q x) σ' ρ' := by
  obtain ⟨-, h2, h3⟩ := lI_0 h
  have e : ab_u (ab_u S 19 5 0) 18 q x 19 3 = S 19 3 := by simp [ab_u_app]
  refine ⟨hC, hR, ?_, J_cut h3 q, ?_, ?_⟩
  · rw [e]; exact I_cut h2 hx q
  · rw [e]; exact h.2.2.2.2.1
  · rw [e]; exact h.2.2.2.2.2
theorem lI_add {S : ab_S} {σ ρ σ' ρ' : am_M} {p1 p2 p3 p4 : Int} (h : lI S σ ρ) (ho : ab_okA p1 p2 p3 p4) (hn : S 19 4 < 24) (hC : ab_C (ab_add (ab_u S 19 5 0) p1 p2 p3 p4) σ') (hR : ab_R (ab_add (ab_u S 19 5 0) p1 p2 p3 p4) ρ') : lI (ab_add (ab_u S 19 5 0) p1 p2 p3 p4) σ' ρ' := by
  obtain ⟨-, h2, h3⟩ := lI_0 h
  have e : ab_add (ab_u S 19 5 0) p1 p2 p3 p4 19 3 = S 19 3 := by rw [add_o _ _ _ _ _ _ (by omega) (by omega)]; simp [ab_u_app]
  refine ⟨hC, hR, ?_, J_add h3 ho.2.2.2.1.1, ?_, ?_⟩
  · rw [e]; exact I_add h2 ho (by simpa [ab_u_app] using hn)
  · rw [e]; exact h.2.2.2.2.1
  · rw [e]; exact h.2.2.2.2.2
theorem lI_pass {S : ab_S} {σ ρ σ' ρ' : am_M} {n : Nat} (h : lI S σ ρ) (hn : n ≤ 200) (hc : S 19 3 + n ≤ 100000) (hC : ab_C (ab_pass (ab_u S 19 5 0) n) σ') (hR : ab_R (ab_pass (ab_u S 19 5 0) n) ρ') : lI (ab_pass (ab_u S 19 5 0) n) σ' ρ' := by
  obtain ⟨-, h2, h3⟩ := lI_0 h
  have e5 : ab_u S 19 5 0 19 3 = S 19 3 := by simp [ab_u_app]
  have e : ab_pass (ab_u S 19 5 0) n 19 3 = S 19 3 + n := by rw [(pass_193 _ n).1, e5]
  have h0 := h.2.2.2.2.1
  have hb : 48 * S 19 3 + 48 * (n : Int) ≤ 100000000 := by omega
  refine ⟨hC, hR, ?_, J_pass h2 h3 n hb (by rw [e5]; exact hc), ?_, ?_⟩
  · rw [e, Int.mul_add]; exact I_pass h2 n hb (by rw [e5]; exact hc)
  · rw [e]; omega
  · rw [e]; exact hc

set_option maxRecDepth 100000 in
set_option maxHeartbeats 4000000 in
/-- case 0: reset -/
theorem lc_reset {g : am_g} {cJ : ClassId} {o : Nat} {p : Program} {l : Launch} {e : Env} {s : State} {m : MethodId} {args : Array Value} {below : List Frame} {meth : Method} {c : Code} {cells slots : Nat} {Q : State → Prop} {b L i : Nat} {xs : Nat → Int32} (hl : l.stackTraces = false) (hIC : am_inj (gC g)) (hIR : am_inj (gR g)) (C : lC g cJ o p s m args c) (hX : va_X b L xs s s.heap) (hbl : b < s.heap.size) (hL : L ≤ 2560) (hi : i + 5 ≤ L) (hc0 : cells + 3 ≤ room_1.cells) (hs0 : slots + 18 ≤ room_1.slots) (S : ab_S) (σ ρ : am_M) (v : Int64) (H : Heap) (locs : List Loc) (ls : Array Slot) (hI : lI S σ ρ) (hw : lL g cJ o σ ρ v H) (hS : va_S (lB s) s.heap H locs) (hlv : lv_has ls 7 (lV g o b i)) (hn : lNext g cJ o b i p l e s m args below meth c (cells + 3) (slots + 18) Q) : W p l e room_1 s m args below meth c H locs cells slots Q (F0 m 152 ls []) := by
  have hx := C.1.1
  have hb := C.1.2.1
  have hcl : 0 ≤ S 19 3 ∧ S 19 3 ≤ 100000 := hI.2.2.2.2
  refine lv_aload_n hx hb dL_law_152 rfl (lv_at hlv 1 rfl) ?_
  refine ll_arg C hX hbl hL 1 (by omega) (by omega) hS (lv_at hlv 0 rfl) (lv_at hlv 4 rfl) dL_law_153 dL_law_154 dL_law_156 dL_law_157 dL_law_158 ?_
  refine ll_arg C hX hbl hL 2 (by omega) (by omega) hS (lv_at hlv 0 rfl) (lv_at hlv 4 rfl) dL_law_159 dL_law_160 dL_law_162 dL_law_163 dL_law_164 ?_
  refine ll_arg C hX hbl hL 3 (by omega) (by omega) hS (lv_at hlv 0 rfl) (lv_at hlv 4 rfl) dL_law_165 dL_law_166 dL_law_168 dL_law_169 dL_law_170 ?_
  refine ll_wr (av := [.ref (g.2.2 0 0), .int (Int32.ofInt (pA xs (i + 1))), .int (Int32.ofInt (pA xs (i + 2))), .int (Int32.ofInt (pA xs (i + 3)))]) (rest := []) (n := 4) C (w_reset l hl g hIC cJ o v σ (pA xs (i + 1)) (pA xs (i + 2)) (pA xs (i + 3)) (pA_r xs _) (pA_r xs _) (pA_r xs _)) (vx_cwSW 4 C.1.2.2.2.2 gL_law_L_reset rfl rfl rfl (by decide +kernel) ⟨Nat.le_of_ble_eq_true rfl, Nat.le_of_ble_eq_true rfl⟩) rfl (Nat.le_of_ble_eq_true rfl) dL_law_171 ⟨by omega, by omega⟩ hw hS hlv.1 (fun k v1 σ1 H1 locs1 hp hw1 hS1 => ?_)
  have hk : 0 ≤ k ∧ k ≤ 2 := by
    rcases hp with ⟨h, -⟩ | ⟨E, -, -, -, h⟩
    · rw [h]; omega
    · rw [h]; exact lK_12 E
  refine lv_istore (lv' := (5, .int (Int32.ofInt k)) :: lV g o b i) hx hb dL_law_174 hlv (by decide) rfl (fun ls hlv => ?_)
  refine lv_aload_n hx hb dL_law_176 rfl (lv_at hlv 3 rfl) ?_
  refine ll_arg C hX hbl hL 1 (by omega) (by omega) hS1 (lv_at hlv 1 rfl) (lv_at hlv 5 rfl) dL_law_177 dL_law_178 dL_law_180 dL_law_181 dL_law_182 ?_
  refine ll_arg C hX hbl hL 2 (by omega) (by omega) hS1 (lv_at hlv 1 rfl) (lv_at hlv 5 rfl) dL_law_183 dL_law_184 dL_law_186 dL_law_187 dL_law_188 ?_
  refine ll_arg C hX hbl hL 3 (by omega) (by omega) hS1 (lv_at hlv 1 rfl) (lv_at hlv 5 rfl) dL_law_189 dL_law_190 dL_law_192 dL_law_193 dL_law_194 ?_
  refine ll_mv (av := [.inl (pA xs (i + 1)), .inl (pA xs (i + 2)), .inl (pA xs (i + 3))]) (rest := []) (n := 3) C (c_X6_reset l g hIR ρ (pA xs (i + 1)) (pA xs (i + 2)) (pA xs (i + 3)) (pA_r xs _) (pA_r xs _) (pA_r xs _) S _ hI.2.1 hI.2.2.1) (cwV 3 C.1.2.2.2.2 gL_law_X6_reset rfl rfl rfl (by decide +kernel) ⟨Nat.le_of_ble_eq_true rfl, Nat.le_of_ble_eq_true rfl⟩) rfl (Nat.le_of_ble_eq_true rfl) dL_law_195 ⟨by omega, by omega⟩ hw1 hS1 hlv.1 (fun ρ1 H2 locs2 hm hw2 hS2 => ?_)
  obtain ⟨⟨S1, hI1⟩, hth⟩ := lE_reset hI hp hm
  refine lv_aload_n hx hb dL_law_198 rfl (lv_at hlv 3 rfl) ?_
  refine ll_md (av := []) (rest := []) (n := 0) C (c_X6_thrown l g hIR ρ1) (cwV 0 C.1.2.2.2.2 gL_law_X6_thrown rfl rfl rfl (by decide +kernel) ⟨Nat.le_of_ble_eq_true rfl, Nat.le_of_ble_eq_true rfl⟩) rfl (Nat.le_of_ble_eq_true rfl) dL_law_199 ⟨by omega, by omega⟩ hw2 hS2 hlv.1 (fun t ρ2 H3 locs3 hq hw3 hS3 => ?_)
  obtain ⟨rfl, ht⟩ := hq
  rw [hth] at ht
  rw [ht]
  refine lv_iload hx hb dL_law_202 (lv_at hlv 0 rfl) ?_
  refine lv_icmp_eq (tgt := 209) hx hb dL_law_204 (by decide) (fun _ => ?_) (fun h => absurd rfl h)
  refine lv_goto (tgt := 1449) hx hb dL_law_209 (by decide) ?_
  refine W.widen (k := cells + 3) (n := slots + 18) (by omega) (by omega) ?_
  exact hn _ _ _ _ _ _ _ hI1 hw3 hS3 (lv_sub hlv [1, 2, 3, 4, 5] rfl)

set_option maxRecDepth 100000 in
set_option maxHeartbeats 4000000 in
/-- case 1: addFlow -/
theorem lc_addFlow {g : am_g} {cJ : ClassId} {o : Nat} {p : Program} {l : Launch} {e : Env} {s : State} {m : MethodId} {args : Array Value} {below : List Frame} {meth : Method} {c : Code} {cells slots : Nat} {Q : State → Prop} {b L i : Nat} {xs : Nat → Int32} (hl : l.stackTraces = false) (hIC : am_inj (gC g)) (hIR : am_inj (gR g)) (C : lC g cJ o p s m args c) (hX : va_X b L xs s s.heap) (hbl : b < s.heap.size) (hL : L ≤ 2560) (hi : i + 5 ≤ L) (hc0 : cells + 3 ≤ room_1.cells) (hs0 : slots + 18 ≤ room_1.slots) (S : ab_S) (σ ρ : am_M) (v : Int64) (H : Heap) (locs : List Loc) (ls : Array Slot) (hI : lI S σ ρ) (hw : lL g cJ o σ ρ v H) (hS : va_S (lB s) s.heap H locs) (hlv : lv_has ls 7 (lV g o b i)) (hn : lNext g cJ o b i p l e s m args below meth c (cells + 3) (slots + 18) Q) : W p l e room_1 s m args below meth c H locs cells slots Q (F0 m 212 ls []) := by
  have hx := C.1.1
  have hb := C.1.2.1
  have hcl : 0 ≤ S 19 3 ∧ S 19 3 ≤ 100000 := hI.2.2.2.2
  refine lv_aload_n hx hb dL_law_212 rfl (lv_at hlv 1 rfl) ?_
  refine ll_arg C hX hbl hL 1 (by omega) (by omega) hS (lv_at hlv 0 rfl) (lv_at hlv 4 rfl) dL_law_213 dL_law_214 dL_law_216 dL_law_217 dL_law_218 ?_
  refine ll_arg C hX hbl hL 2 (by omega) (by omega) hS (lv_at hlv 0 rfl) (lv_at hlv 4 rfl) dL_law_219 dL_law_220 dL_law_222 dL_law_223 dL_law_224 ?_
  refine ll_arg C hX hbl hL 3 (by omega) (by omega) hS (lv_at hlv 0 rfl) (lv_at hlv 4 rfl) dL_law_225 dL_law_226 dL_law_228 dL_law_229 dL_law_230 ?_
  refine ll_arg C hX hbl hL 4 (by omega) (by omega) hS (lv_at hlv 0 rfl) (lv_at hlv 4 rfl) dL_law_231 dL_law_232 dL_law_234 dL_law_235 dL_law_236 ?_
  refine lv_aload_n hx hb dL_law_237 rfl (lv_at hlv 3 rfl) ?_
  refine ll_wr (av := [.ref (g.2.2 0 0), .int (Int32.ofInt (pA xs (i + 1))), .int (Int32.ofInt (pA xs (i + 2))), .int (Int32.ofInt (pA xs (i + 3))), .int (Int32.ofInt (pA xs (i + 4))), .ref o]) (rest := []) (n := 6) C (w_addFlow l hl g hIC cJ o v σ (pA xs (i + 1)) (pA xs (i + 2)) (pA xs (i + 3)) (pA xs (i + 4)) (pA_r xs _) (pA_r xs _) (pA_r xs _) (pA_r xs _) (ab_u S 19 5 0) _ (lI_0 hI).1 (lI_0 hI).2.1) (vx_cwSW 6 C.1.2.2.2.2 gL_law_L_addFlow rfl rfl rfl (by decide +kernel) ⟨Nat.le_of_ble_eq_true rfl, Nat.le_of_ble_eq_true rfl⟩) rfl (Nat.le_of_ble_eq_true rfl) dL_law_238 ⟨by omega, by omega⟩ hw hS hlv.1 (fun k v1 σ1 H1 locs1 hp hw1 hS1 => ?_)
  have hk : 0 ≤ k ∧ k ≤ 2 := by
    rcases hp with ⟨h, -⟩ | ⟨E, -, -, -, h⟩
    · rw [h]; omega
    · rw [h]; exact lK_12 E
  refine lv_istore (lv' := (5, .int (Int32.ofInt k)) :: lV g o b i) hx hb dL_law_241 hlv (by decide) rfl (fun ls hlv => ?_)
  refine lv_aload_n hx hb dL_law_243 rfl (lv_at hlv 3 rfl) ?_
  refine ll_arg C hX hbl hL 1 (by omega) (by omega) hS1 (lv_at hlv 1 rfl) (lv_at hlv 5 rfl) dL_law_244 dL_law_245 dL_law_247 dL_law_248 dL_law_249 ?_
  refine ll_arg C hX hbl hL 2 (by omega) (by omega) hS1 (lv_at hlv 1 rfl) (lv_at hlv 5 rfl) dL_law_250 dL_law_251 dL_law_253 dL_law_254 dL_law_255 ?_
  refine ll_arg C hX hbl hL 3 (by omega) (by omega) hS1 (lv_at hlv 1 rfl) (lv_at hlv 5 rfl) dL_law_256 dL_law_257 dL_law_259 dL_law_260 dL_law_261 ?_
  refine ll_arg C hX hbl hL 4 (by omega) (by omega) hS1 (lv_at hlv 1 rfl) (lv_at hlv 5 rfl) dL_law_262 dL_law_263 dL_law_265 dL_law_266 dL_law_267 ?_
  refine ll_md (av := [.inl (pA xs (i + 1)), .inl (pA xs (i + 2)), .inl (pA xs (i + 3)), .inl (pA xs (i + 4))]) (rest := []) (n := 4) C (c_X6_addFlow l g hIR ρ (pA xs (i + 1)) (pA xs (i + 2)) (pA xs (i + 3)) (pA xs (i + 4)) (pA_r xs _) (pA_r xs _) (pA_r xs _) (pA_r xs _) S _ hI.2.1 hI.2.2.1) (cwV 4 C.1.2.2.2.2 gL_law_X6_addFlow rfl rfl rfl (by decide +kernel) ⟨Nat.le_of_ble_eq_true rfl, Nat.le_of_ble_eq_true rfl⟩) rfl (Nat.le_of_ble_eq_true rfl) dL_law_268 ⟨by omega, by omega⟩ hw1 hS1 hlv.1 (fun x ρ1 H2 locs2 hm hw2 hS2 => ?_)
  have hE : lE σ1 ρ1 k v1 x := lE_two hI (by first | (rw [pass_195]; simp [ab_u_app]) | simp [ab_u_app, ab_add]) (fun _ _ => rfl) (fun hB hD hC hR => lI_add hI hB hD hC hR) hp hm
  refine W.widen (k := cells + 3) (n := slots + 18) (by omega) (by omega) ?_
  exact ll_tail C hIR hE (by omega) hc0 hs0 hw2 hS2 hlv hn (by decide) dL_law_271 dL_law_273 dL_law_274 dL_law_277 dL_law_279 dL_law_284 dL_law_286 dL_law_289 dL_law_290 dL_law_291 dL_law_292 dL_law_294 dL_law_295 dL_law_296 dL_law_301

set_option maxRecDepth 100000 in
set_option maxHeartbeats 4000000 in
/-- case 2: cut -/
theorem lc_cut {g : am_g} {cJ : ClassId} {o : Nat} {p : Program} {l : Launch} {e : Env} {s : State} {m : MethodId} {args : Array Value} {below : List Frame} {meth : Method} {c : Code} {cells slots : Nat} {Q : State → Prop} {b L i : Nat} {xs : Nat → Int32} (hl : l.stackTraces = false) (hIC : am_inj (gC g)) (hIR : am_inj (gR g)) (C : lC g cJ o p s m args c) (hX : va_X b L xs s s.heap) (hbl : b < s.heap.size) (hL : L ≤ 2560) (hi : i + 5 ≤ L) (hc0 : cells + 3 ≤ room_1.cells) (hs0 : slots + 18 ≤ room_1.slots) (S : ab_S) (σ ρ : am_M) (v : Int64) (H : Heap) (locs : List Loc) (ls : Array Slot) (hI : lI S σ ρ) (hw : lL g cJ o σ ρ v H) (hS : va_S (lB s) s.heap H locs) (hlv : lv_has ls 7 (lV g o b i)) (hn : lNext g cJ o b i p l e s m args below meth c (cells + 3) (slots + 18) Q) : W p l e room_1 s m args below meth c H locs cells slots Q (F0 m 304 ls []) := by
  have hx := C.1.1
  have hb := C.1.2.1
  have hcl : 0 ≤ S 19 3 ∧ S 19 3 ≤ 100000 := hI.2.2.2.2
  refine lv_aload_n hx hb dL_law_304 rfl (lv_at hlv 1 rfl) ?_
  refine ll_arg C hX hbl hL 1 (by omega) (by omega) hS (lv_at hlv 0 rfl) (lv_at hlv 4 rfl) dL_law_305 dL_law_306 dL_law_308 dL_law_309 dL_law_310 ?_
  refine ll_arg C hX hbl hL 2 (by omega) (by omega) hS (lv_at hlv 0 rfl) (lv_at hlv 4 rfl) dL_law_311 dL_law_312 dL_law_314 dL_law_315 dL_law_316 ?_
  refine lv_aload_n hx hb dL_law_317 rfl (lv_at hlv 3 rfl) ?_
  refine ll_wr (av := [.ref (g.2.2 0 0), .int (Int32.ofInt (pA xs (i + 1))), .int (Int32.ofInt (pA xs (i + 2))), .ref o]) (rest := []) (n := 4) C (w_cut l hl g hIC cJ o v σ (pA xs (i + 1)) (pA xs (i + 2)) (pA_r xs _) (pA_r xs _) (ab_u S 19 5 0) _ (lI_0 hI).1 (lI_0 hI).2.1) (vx_cwSW 4 C.1.2.2.2.2 gL_law_L_cut rfl rfl rfl (by decide +kernel) ⟨Nat.le_of_ble_eq_true rfl, Nat.le_of_ble_eq_true rfl⟩) rfl (Nat.le_of_ble_eq_true rfl) dL_law_318 ⟨by omega, by omega⟩ hw hS hlv.1 (fun k v1 σ1 H1 locs1 hp hw1 hS1 => ?_)
  have hk : 0 ≤ k ∧ k ≤ 2 := by
    rcases hp with ⟨h, -⟩ | ⟨E, -, -, -, h⟩
    · rw [h]; omega
    · rw [h]; exact lK_12 E
  refine lv_istore (lv' := (5, .int (Int32.ofInt k)) :: lV g o b i) hx hb dL_law_321 hlv (by decide) rfl (fun ls hlv => ?_)
  refine lv_aload_n hx hb dL_law_323 rfl (lv_at hlv 3 rfl) ?_
  refine ll_arg C hX hbl hL 1 (by omega) (by omega) hS1 (lv_at hlv 1 rfl) (lv_at hlv 5 rfl) dL_law_324 dL_law_325 dL_law_327 dL_law_328 dL_law_329 ?_
  refine ll_arg C hX hbl hL 2 (by omega) (by omega) hS1 (lv_at hlv 1 rfl) (lv_at hlv 5 rfl) dL_law_330 dL_law_331 dL_law_333 dL_law_334 dL_law_335 ?_
  refine ll_md (av := [.inl (pA xs (i + 1)), .inl (pA xs (i + 2))]) (rest := []) (n := 2) C (c_X6_cut l g hIR ρ (pA xs (i + 1)) (pA xs (i + 2)) (pA_r xs _) (pA_r xs _) S _ hI.2.1 hI.2.2.1) (cwV 2 C.1.2.2.2.2 gL_law_X6_cut rfl rfl rfl (by decide +kernel) ⟨Nat.le_of_ble_eq_true rfl, Nat.le_of_ble_eq_true rfl⟩) rfl (Nat.le_of_ble_eq_true rfl) dL_law_336 ⟨by omega, by omega⟩ hw1 hS1 hlv.1 (fun x ρ1 H2 locs2 hm hw2 hS2 => ?_)
  have hE : lE σ1 ρ1 k v1 x := lE_two hI (by first | (rw [pass_195]; simp [ab_u_app]) | simp [ab_u_app, ab_add]) (fun _ _ => rfl) (fun hB hD hC hR => lI_cut (Or.inr rfl) hI hC hR) hp hm
  refine W.widen (k := cells + 3) (n := slots + 18) (by omega) (by omega) ?_
  exact ll_tail C hIR hE (by omega) hc0 hs0 hw2 hS2 hlv hn (by decide) dL_law_339 dL_law_341 dL_law_342 dL_law_345 dL_law_347 dL_law_352 dL_law_354 dL_law_357 dL_law_358 dL_law_359 dL_law_360 dL_law_362 dL_law_363 dL_law_364 dL_law_369

set_option maxRecDepth 100000 in
set_option maxHeartbeats 4000000 in
/-- case 3: restore -/
theorem lc_restore {g : am_g} {cJ : ClassId} {o : Nat} {p : Program} {l : Launch} {e : Env} {s : State} {m : MethodId} {args : Array Value} {below : List Frame} {meth : Method} {c : Code} {cells slots : Nat} {Q : State → Prop} {b L i : Nat} {xs : Nat → Int32} (hl : l.stackTraces = false) (hIC : am_inj (gC g)) (hIR : am_inj (gR g)) (C : lC g cJ o p s m args c) (hX : va_X b L xs s s.heap) (hbl : b < s.heap.size) (hL : L ≤ 2560) (hi : i + 5 ≤ L) (hc0 : cells + 3 ≤ room_1.cells) (hs0 : slots + 18 ≤ room_1.slots) (S : ab_S) (σ ρ : am_M) (v : Int64) (H : Heap) (locs : List Loc) (ls : Array Slot) (hI : lI S σ ρ) (hw : lL g cJ o σ ρ v H) (hS : va_S (lB s) s.heap H locs) (hlv : lv_has ls 7 (lV g o b i)) (hn : lNext g cJ o b i p l e s m args below meth c (cells + 3) (slots + 18) Q) : W p l e room_1 s m args below meth c H locs cells slots Q (F0 m 372 ls []) := by
  have hx := C.1.1
  have hb := C.1.2.1
  have hcl : 0 ≤ S 19 3 ∧ S 19 3 ≤ 100000 := hI.2.2.2.2
  refine lv_aload_n hx hb dL_law_372 rfl (lv_at hlv 1 rfl) ?_
  refine ll_arg C hX hbl hL 1 (by omega) (by omega) hS (lv_at hlv 0 rfl) (lv_at hlv 4 rfl) dL_law_373 dL_law_374 dL_law_376 dL_law_377 dL_law_378 ?_
  refine ll_arg C hX hbl hL 2 (by omega) (by omega) hS (lv_at hlv 0 rfl) (lv_at hlv 4 rfl) dL_law_379 dL_law_380 dL_law_382 dL_law_383 dL_law_384 ?_
  refine lv_aload_n hx hb dL_law_385 rfl (lv_at hlv 3 rfl) ?_
  refine ll_wr (av := [.ref (g.2.2 0 0), .int (Int32.ofInt (pA xs (i + 1))), .int (Int32.ofInt (pA xs (i + 2))), .ref o]) (rest := []) (n := 4) C (w_restore l hl g hIC cJ o v σ (pA xs (i + 1)) (pA xs (i + 2)) (pA_r xs _) (pA_r xs _) (ab_u S 19 5 0) _ (lI_0 hI).1 (lI_0 hI).2.1) (vx_cwSW 4 C.1.2.2.2.2 gL_law_L_restore rfl rfl rfl (by decide +kernel) ⟨Nat.le_of_ble_eq_true rfl, Nat.le_of_ble_eq_true rfl⟩) rfl (Nat.le_of_ble_eq_true rfl) dL_law_386 ⟨by omega, by omega⟩ hw hS hlv.1 (fun k v1 σ1 H1 locs1 hp hw1 hS1 => ?_)
  have hk : 0 ≤ k ∧ k ≤ 2 := by
    rcases hp with ⟨h, -⟩ | ⟨E, -, -, -, h⟩
    · rw [h]; omega
    · rw [h]; exact lK_12 E
  refine lv_istore (lv' := (5, .int (Int32.ofInt k)) :: lV g o b i) hx hb dL_law_389 hlv (by decide) rfl (fun ls hlv => ?_)
  refine lv_aload_n hx hb dL_law_391 rfl (lv_at hlv 3 rfl) ?_
  refine ll_arg C hX hbl hL 1 (by omega) (by omega) hS1 (lv_at hlv 1 rfl) (lv_at hlv 5 rfl) dL_law_392 dL_law_393 dL_law_395 dL_law_396 dL_law_397 ?_
  refine ll_arg C hX hbl hL 2 (by omega) (by omega) hS1 (lv_at hlv 1 rfl) (lv_at hlv 5 rfl) dL_law_398 dL_law_399 dL_law_401 dL_law_402 dL_law_403 ?_
  refine ll_md (av := [.inl (pA xs (i + 1)), .inl (pA xs (i + 2))]) (rest := []) (n := 2) C (c_X6_restore l g hIR ρ (pA xs (i + 1)) (pA xs (i + 2)) (pA_r xs _) (pA_r xs _) S _ hI.2.1 hI.2.2.1) (cwV 2 C.1.2.2.2.2 gL_law_X6_restore rfl rfl rfl (by decide +kernel) ⟨Nat.le_of_ble_eq_true rfl, Nat.le_of_ble_eq_true rfl⟩) rfl (Nat.le_of_ble_eq_true rfl) dL_law_404 ⟨by omega, by omega⟩ hw1 hS1 hlv.1 (fun x ρ1 H2 locs2 hm hw2 hS2 => ?_)
  have hE : lE σ1 ρ1 k v1 x := lE_two hI (by first | (rw [pass_195]; simp [ab_u_app]) | simp [ab_u_app, ab_add]) (fun _ _ => rfl) (fun hB hD hC hR => lI_cut (Or.inl rfl) hI hC hR) (hp.imp_right (fun ⟨E, h, r⟩ => ⟨E, h.imp_right (fun h => ⟨h.1, h.2.1, fun hn => hn h.2.2⟩), r⟩)) (hm.imp_right (Or.imp_right (fun h => ⟨h.1, fun hn => hn h.2.1, h.2.2⟩)))
  refine W.widen (k := cells + 3) (n := slots + 18) (by omega) (by omega) ?_
  exact ll_tail C hIR hE (by omega) hc0 hs0 hw2 hS2 hlv hn (by decide) dL_law_407 dL_law_409 dL_law_410 dL_law_413 dL_law_415 dL_law_420 dL_law_422 dL_law_425 dL_law_426 dL_law_427 dL_law_428 dL_law_430 dL_law_431 dL_law_432 dL_law_437

set_option maxRecDepth 100000 in
set_option maxHeartbeats 4000000 in
/-- case 4: pass -/
theorem lc_pass {g : am_g} {cJ : ClassId} {o : Nat} {p : Program} {l : Launch} {e : Env} {s : State} {m : MethodId} {args : Array Value} {below : List Frame} {meth : Method} {c : Code} {cells slots : Nat} {Q : State → Prop} {b L i : Nat} {xs : Nat → Int32} (hl : l.stackTraces = false) (hIC : am_inj (gC g)) (hIR : am_inj (gR g)) (C : lC g cJ o p s m args c) (hX : va_X b L xs s s.heap) (hbl : b < s.heap.size) (hL : L ≤ 2560) (hi : i + 5 ≤ L) (hc0 : cells + 3 ≤ room_1.cells) (hs0 : slots + 18 ≤ room_1.slots) (S : ab_S) (σ ρ : am_M) (v : Int64) (H : Heap) (locs : List Loc) (ls : Array Slot) (hI : lI S σ ρ) (hw : lL g cJ o σ ρ v H) (hS : va_S (lB s) s.heap H locs) (hlv : lv_has ls 7 (lV g o b i)) (hn : lNext g cJ o b i p l e s m args below meth c (cells + 3) (slots + 18) Q) : W p l e room_1 s m args below meth c H locs cells slots Q (F0 m 440 ls []) := by
  have hx := C.1.1
  have hb := C.1.2.1
  have hcl : 0 ≤ S 19 3 ∧ S 19 3 ≤ 100000 := hI.2.2.2.2
  refine lv_aload_n hx hb dL_law_440 rfl (lv_at hlv 1 rfl) ?_
  refine ll_arg C hX hbl hL 1 (by omega) (by omega) hS (lv_at hlv 0 rfl) (lv_at hlv 4 rfl) dL_law_441 dL_law_442 dL_law_444 dL_law_445 dL_law_446 ?_
  refine lv_aload_n hx hb dL_law_447 rfl (lv_at hlv 3 rfl) ?_
  refine ll_wr (av := [.ref (g.2.2 0 0), .int (Int32.ofInt (pA xs (i + 1))), .ref o]) (rest := []) (n := 3) C (w_pass l hl g hIC cJ o v σ (pA xs (i + 1)) (pA_r xs _) (ab_u S 19 5 0) _ (lI_0 hI).1 (lI_0 hI).2.1 (by omega)) (vx_cwSW 3 C.1.2.2.2.2 gL_law_L_pass rfl rfl rfl (by decide +kernel) ⟨Nat.le_of_ble_eq_true rfl, Nat.le_of_ble_eq_true rfl⟩) rfl (Nat.le_of_ble_eq_true rfl) dL_law_448 ⟨by omega, by omega⟩ hw hS hlv.1 (fun k v1 σ1 H1 locs1 hp hw1 hS1 => ?_)
  have hk : 0 ≤ k ∧ k ≤ 2 := by
    rcases hp with ⟨h, -⟩ | ⟨E, -, -, -, h⟩
    · rw [h]; omega
    · rw [h]; exact lK_12 E
  refine lv_istore (lv' := (5, .int (Int32.ofInt k)) :: lV g o b i) hx hb dL_law_451 hlv (by decide) rfl (fun ls hlv => ?_)
  refine lv_aload_n hx hb dL_law_453 rfl (lv_at hlv 3 rfl) ?_
  refine ll_arg C hX hbl hL 1 (by omega) (by omega) hS1 (lv_at hlv 1 rfl) (lv_at hlv 5 rfl) dL_law_454 dL_law_455 dL_law_457 dL_law_458 dL_law_459 ?_
  refine ll_md (av := [.inl (pA xs (i + 1))]) (rest := []) (n := 1) C (c_X6_pass l g hIR ρ (pA xs (i + 1)) (pA_r xs _) S _ hI.2.1 hI.2.2.1 (by omega)) (cwV 1 C.1.2.2.2.2 gL_law_X6_pass rfl rfl rfl (by decide +kernel) ⟨Nat.le_of_ble_eq_true rfl, Nat.le_of_ble_eq_true rfl⟩) rfl (Nat.le_of_ble_eq_true rfl) dL_law_460 ⟨by omega, by omega⟩ hw1 hS1 hlv.1 (fun x ρ1 H2 locs2 hm hw2 hS2 => ?_)
  have hE : lE σ1 ρ1 k v1 x := lE_two hI (by first | (rw [pass_195]; simp [ab_u_app]) | simp [ab_u_app, ab_add]) (fun _ _ => rfl) (fun hB hD hC hR => lI_pass hI (by omega) (lI_n5 hD hB) hC hR) hp hm
  refine W.widen (k := cells + 3) (n := slots + 18) (by omega) (by omega) ?_
  exact ll_tail C hIR hE (by omega) hc0 hs0 hw2 hS2 hlv hn (by decide) dL_law_463 dL_law_465 dL_law_466 dL_law_469 dL_law_471 dL_law_476 dL_law_478 dL_law_481 dL_law_482 dL_law_483 dL_law_484 dL_law_486 dL_law_487 dL_law_488 dL_law_493

set_option maxRecDepth 100000 in
set_option maxHeartbeats 4000000 in
/-- case 5: clock -/
theorem lc_clock {g : am_g} {cJ : ClassId} {o : Nat} {p : Program} {l : Launch} {e : Env} {s : State} {m : MethodId} {args : Array Value} {below : List Frame} {meth : Method} {c : Code} {cells slots : Nat} {Q : State → Prop} {b L i : Nat} {xs : Nat → Int32} (hl : l.stackTraces = false) (hIC : am_inj (gC g)) (hIR : am_inj (gR g)) (C : lC g cJ o p s m args c) (hX : va_X b L xs s s.heap) (hbl : b < s.heap.size) (hL : L ≤ 2560) (hi : i + 5 ≤ L) (hc0 : cells + 3 ≤ room_1.cells) (hs0 : slots + 18 ≤ room_1.slots) (S : ab_S) (σ ρ : am_M) (v : Int64) (H : Heap) (locs : List Loc) (ls : Array Slot) (hI : lI S σ ρ) (hw : lL g cJ o σ ρ v H) (hS : va_S (lB s) s.heap H locs) (hlv : lv_has ls 7 (lV g o b i)) (hn : lNext g cJ o b i p l e s m args below meth c (cells + 3) (slots + 18) Q) : W p l e room_1 s m args below meth c H locs cells slots Q (F0 m 496 ls []) := by
  have hx := C.1.1
  have hb := C.1.2.1
  have hcl : 0 ≤ S 19 3 ∧ S 19 3 ≤ 100000 := hI.2.2.2.2
  refine lv_aload_n hx hb dL_law_496 rfl (lv_at hlv 1 rfl) ?_
  refine ll_cp (av := []) (rest := []) (n := 0) C (c_X5_clock l g hIC σ S _ hI.1 hI.2.2.1) (cwV 0 C.1.2.2.2.2 gL_law_X5_clock rfl rfl rfl (by decide +kernel) ⟨Nat.le_of_ble_eq_true rfl, Nat.le_of_ble_eq_true rfl⟩) rfl (Nat.le_of_ble_eq_true rfl) dL_law_497 ⟨by omega, by omega⟩ hw hS hlv.1 (fun x σ1 H1 locs1 hp hw1 hS1 => ?_)
  obtain ⟨rfl, rfl⟩ := hp
  refine lv_aload_n hx hb dL_law_500 rfl (lv_at hlv 2 rfl) ?_
  refine ll_md (av := []) (rest := [_]) (n := 0) C (c_X6_clock l g hIR ρ S _ hI.2.1 hI.2.2.1) (cwV 0 C.1.2.2.2.2 gL_law_X6_clock rfl rfl rfl (by decide +kernel) ⟨Nat.le_of_ble_eq_true rfl, Nat.le_of_ble_eq_true rfl⟩) rfl (Nat.le_of_ble_eq_true rfl) dL_law_501 ⟨by omega, by omega⟩ hw1 hS1 hlv.1 (fun x ρ1 H2 locs2 hm hw2 hS2 => ?_)
  obtain ⟨hR, rfl⟩ := hm
  refine W.widen (k := cells + 3) (n := slots + 18) (by omega) (by omega) ?_
  exact lv_icmp_eq (tgt := 1449) hx hb dL_law_504 (by decide) (fun _ => hn _ _ _ _ _ _ _ (lI_th hI hR) hw2 hS2 hlv) (fun h => absurd rfl h)

set_option maxRecDepth 100000 in
set_option maxHeartbeats 4000000 in
/-- case 6: flows -/
theorem lc_flows {g : am_g} {cJ : ClassId} {o : Nat} {p : Program} {l : Launch} {e : Env} {s : State} {m : MethodId} {args : Array Value} {below : List Frame} {meth : Method} {c : Code} {cells slots : Nat} {Q : State → Prop} {b L i : Nat} {xs : Nat → Int32} (hl : l.stackTraces = false) (hIC : am_inj (gC g)) (hIR : am_inj (gR g)) (C : lC g cJ o p s m args c) (hX : va_X b L xs s s.heap) (hbl : b < s.heap.size) (hL : L ≤ 2560) (hi : i + 5 ≤ L) (hc0 : cells + 3 ≤ room_1.cells) (hs0 : slots + 18 ≤ room_1.slots) (S : ab_S) (σ ρ : am_M) (v : Int64) (H : Heap) (locs : List Loc) (ls : Array Slot) (hI : lI S σ ρ) (hw : lL g cJ o σ ρ v H) (hS : va_S (lB s) s.heap H locs) (hlv : lv_has ls 7 (lV g o b i)) (hn : lNext g cJ o b i p l e s m args below meth c (cells + 3) (slots + 18) Q) : W p l e room_1 s m args below meth c H locs cells slots Q (F0 m 509 ls []) := by
  have hx := C.1.1
  have hb := C.1.2.1
  have hcl : 0 ≤ S 19 3 ∧ S 19 3 ≤ 100000 := hI.2.2.2.2
  refine lv_aload_n hx hb dL_law_509 rfl (lv_at hlv 1 rfl) ?_
  refine ll_cp (av := []) (rest := []) (n := 0) C (c_X5_flows l g hIC σ S _ hI.1 hI.2.2.1) (cwV 0 C.1.2.2.2.2 gL_law_X5_flows rfl rfl rfl (by decide +kernel) ⟨Nat.le_of_ble_eq_true rfl, Nat.le_of_ble_eq_true rfl⟩) rfl (Nat.le_of_ble_eq_true rfl) dL_law_510 ⟨by omega, by omega⟩ hw hS hlv.1 (fun x σ1 H1 locs1 hp hw1 hS1 => ?_)
  obtain ⟨rfl, rfl⟩ := hp
  refine lv_aload_n hx hb dL_law_513 rfl (lv_at hlv 2 rfl) ?_
  refine ll_md (av := []) (rest := [_]) (n := 0) C (c_X6_flows l g hIR ρ S _ hI.2.1 hI.2.2.1) (cwV 0 C.1.2.2.2.2 gL_law_X6_flows rfl rfl rfl (by decide +kernel) ⟨Nat.le_of_ble_eq_true rfl, Nat.le_of_ble_eq_true rfl⟩) rfl (Nat.le_of_ble_eq_true rfl) dL_law_514 ⟨by omega, by omega⟩ hw1 hS1 hlv.1 (fun x ρ1 H2 locs2 hm hw2 hS2 => ?_)
  obtain ⟨hR, rfl⟩ := hm
  refine W.widen (k := cells + 3) (n := slots + 18) (by omega) (by omega) ?_
  exact lv_icmp_eq (tgt := 1449) hx hb dL_law_517 (by decide) (fun _ => hn _ _ _ _ _ _ _ (lI_th hI hR) hw2 hS2 hlv) (fun h => absurd rfl h)

set_option maxRecDepth 100000 in
set_option maxHeartbeats 4000000 in
/-- case 7: sent -/
theorem lc_sent {g : am_g} {cJ : ClassId} {o : Nat} {p : Program} {l : Launch} {e : Env} {s : State} {m : MethodId} {args : Array Value} {below : List Frame} {meth : Method} {c : Code} {cells slots : Nat} {Q : State → Prop} {b L i : Nat} {xs : Nat → Int32} (hl : l.stackTraces = false) (hIC : am_inj (gC g)) (hIR : am_inj (gR g)) (C : lC g cJ o p s m args c) (hX : va_X b L xs s s.heap) (hbl : b < s.heap.size) (hL : L ≤ 2560) (hi : i + 5 ≤ L) (hc0 : cells + 3 ≤ room_1.cells) (hs0 : slots + 18 ≤ room_1.slots) (S : ab_S) (σ ρ : am_M) (v : Int64) (H : Heap) (locs : List Loc) (ls : Array Slot) (hI : lI S σ ρ) (hw : lL g cJ o σ ρ v H) (hS : va_S (lB s) s.heap H locs) (hlv : lv_has ls 7 (lV g o b i)) (hn : lNext g cJ o b i p l e s m args below meth c (cells + 3) (slots + 18) Q) : W p l e room_1 s m args below meth c H locs cells slots Q (F0 m 522 ls []) := by
  have hx := C.1.1
  have hb := C.1.2.1
  have hcl : 0 ≤ S 19 3 ∧ S 19 3 ≤ 100000 := hI.2.2.2.2
  refine lv_aload_n hx hb dL_law_522 rfl (lv_at hlv 1 rfl) ?_
  refine ll_arg C hX hbl hL 1 (by omega) (by omega) hS (lv_at hlv 0 rfl) (lv_at hlv 4 rfl) dL_law_523 dL_law_524 dL_law_526 dL_law_527 dL_law_528 ?_
  refine lv_aload_n hx hb dL_law_529 rfl (lv_at hlv 3 rfl) ?_
  refine ll_wr (av := [.ref (g.2.2 0 0), .int (Int32.ofInt (pA xs (i + 1))), .ref o]) (rest := []) (n := 3) C (w_sent l hl g hIC cJ o v σ (pA xs (i + 1)) (pA_r xs _) S _ hI.1 hI.2.2.1) (vx_cwSW 3 C.1.2.2.2.2 gL_law_L_sent rfl rfl rfl (by decide +kernel) ⟨Nat.le_of_ble_eq_true rfl, Nat.le_of_ble_eq_true rfl⟩) rfl (Nat.le_of_ble_eq_true rfl) dL_law_530 ⟨by omega, by omega⟩ hw hS hlv.1 (fun k v1 σ1 H1 locs1 hp hw1 hS1 => ?_)
  have hk : 0 ≤ k ∧ k ≤ 2 := by
    rcases hp with ⟨h, -⟩ | ⟨E, -, -, -, h⟩
    · rw [h]; omega
    · rw [h]; exact lK_12 E
  refine lv_istore (lv' := (5, .int (Int32.ofInt k)) :: lV g o b i) hx hb dL_law_533 hlv (by decide) rfl (fun ls hlv => ?_)
  refine lv_aload_n hx hb dL_law_535 rfl (lv_at hlv 3 rfl) ?_
  refine ll_arg C hX hbl hL 1 (by omega) (by omega) hS1 (lv_at hlv 1 rfl) (lv_at hlv 5 rfl) dL_law_536 dL_law_537 dL_law_539 dL_law_540 dL_law_541 ?_
  refine ll_md (av := [.inl (pA xs (i + 1))]) (rest := []) (n := 1) C (c_X6_sent l g hIR ρ (pA xs (i + 1)) (pA_r xs _) S _ hI.2.1 hI.2.2.1) (cwV 1 C.1.2.2.2.2 gL_law_X6_sent rfl rfl rfl (by decide +kernel) ⟨Nat.le_of_ble_eq_true rfl, Nat.le_of_ble_eq_true rfl⟩) rfl (Nat.le_of_ble_eq_true rfl) dL_law_542 ⟨by omega, by omega⟩ hw1 hS1 hlv.1 (fun x ρ1 H2 locs2 hm hw2 hS2 => ?_)
  have hE : lE σ1 ρ1 k v1 x := lE_get lK_IO hI hp hm
  refine W.widen (k := cells + 3) (n := slots + 18) (by omega) (by omega) ?_
  exact ll_tail C hIR hE (by omega) hc0 hs0 hw2 hS2 hlv hn (by decide) dL_law_545 dL_law_547 dL_law_548 dL_law_551 dL_law_553 dL_law_558 dL_law_560 dL_law_563 dL_law_564 dL_law_565 dL_law_566 dL_law_568 dL_law_569 dL_law_570 dL_law_575

set_option maxRecDepth 100000 in
set_option maxHeartbeats 4000000 in
/-- case 8: delivered -/
theorem lc_delivered {g : am_g} {cJ : ClassId} {o : Nat} {p : Program} {l : Launch} {e : Env} {s : State} {m : MethodId} {args : Array Value} {below : List Frame} {meth : Method} {c : Code} {cells slots : Nat} {Q : State → Prop} {b L i : Nat} {xs : Nat → Int32} (hl : l.stackTraces = false) (hIC : am_inj (gC g)) (hIR : am_inj (gR g)) (C : lC g cJ o p s m args c) (hX : va_X b L xs s s.heap) (hbl : b < s.heap.size) (hL : L ≤ 2560) (hi : i + 5 ≤ L) (hc0 : cells + 3 ≤ room_1.cells) (hs0 : slots + 18 ≤ room_1.slots) (S : ab_S) (σ ρ : am_M) (v : Int64) (H : Heap) (locs : List Loc) (ls : Array Slot) (hI : lI S σ ρ) (hw : lL g cJ o σ ρ v H) (hS : va_S (lB s) s.heap H locs) (hlv : lv_has ls 7 (lV g o b i)) (hn : lNext g cJ o b i p l e s m args below meth c (cells + 3) (slots + 18) Q) : W p l e room_1 s m args below meth c H locs cells slots Q (F0 m 578 ls []) := by
  have hx := C.1.1
  have hb := C.1.2.1
  have hcl : 0 ≤ S 19 3 ∧ S 19 3 ≤ 100000 := hI.2.2.2.2
  refine lv_aload_n hx hb dL_law_578 rfl (lv_at hlv 1 rfl) ?_
  refine ll_arg C hX hbl hL 1 (by omega) (by omega) hS (lv_at hlv 0 rfl) (lv_at hlv 4 rfl) dL_law_579 dL_law_580 dL_law_582 dL_law_583 dL_law_584 ?_
  refine lv_aload_n hx hb dL_law_585 rfl (lv_at hlv 3 rfl) ?_
  refine ll_wr (av := [.ref (g.2.2 0 0), .int (Int32.ofInt (pA xs (i + 1))), .ref o]) (rest := []) (n := 3) C (w_delivered l hl g hIC cJ o v σ (pA xs (i + 1)) (pA_r xs _) S _ hI.1 hI.2.2.1) (vx_cwSW 3 C.1.2.2.2.2 gL_law_L_delivered rfl rfl rfl (by decide +kernel) ⟨Nat.le_of_ble_eq_true rfl, Nat.le_of_ble_eq_true rfl⟩) rfl (Nat.le_of_ble_eq_true rfl) dL_law_586 ⟨by omega, by omega⟩ hw hS hlv.1 (fun k v1 σ1 H1 locs1 hp hw1 hS1 => ?_)
  have hk : 0 ≤ k ∧ k ≤ 2 := by
    rcases hp with ⟨h, -⟩ | ⟨E, -, -, -, h⟩
    · rw [h]; omega
    · rw [h]; exact lK_12 E
  refine lv_istore (lv' := (5, .int (Int32.ofInt k)) :: lV g o b i) hx hb dL_law_589 hlv (by decide) rfl (fun ls hlv => ?_)
  refine lv_aload_n hx hb dL_law_591 rfl (lv_at hlv 3 rfl) ?_
  refine ll_arg C hX hbl hL 1 (by omega) (by omega) hS1 (lv_at hlv 1 rfl) (lv_at hlv 5 rfl) dL_law_592 dL_law_593 dL_law_595 dL_law_596 dL_law_597 ?_
  refine ll_md (av := [.inl (pA xs (i + 1))]) (rest := []) (n := 1) C (c_X6_delivered l g hIR ρ (pA xs (i + 1)) (pA_r xs _) S _ hI.2.1 hI.2.2.1) (cwV 1 C.1.2.2.2.2 gL_law_X6_delivered rfl rfl rfl (by decide +kernel) ⟨Nat.le_of_ble_eq_true rfl, Nat.le_of_ble_eq_true rfl⟩) rfl (Nat.le_of_ble_eq_true rfl) dL_law_598 ⟨by omega, by omega⟩ hw1 hS1 hlv.1 (fun x ρ1 H2 locs2 hm hw2 hS2 => ?_)
  have hE : lE σ1 ρ1 k v1 x := lE_get lK_IO hI hp hm
  refine W.widen (k := cells + 3) (n := slots + 18) (by omega) (by omega) ?_
  exact ll_tail C hIR hE (by omega) hc0 hs0 hw2 hS2 hlv hn (by decide) dL_law_601 dL_law_603 dL_law_604 dL_law_607 dL_law_609 dL_law_614 dL_law_616 dL_law_619 dL_law_620 dL_law_621 dL_law_622 dL_law_624 dL_law_625 dL_law_626 dL_law_631

set_option maxRecDepth 100000 in
set_option maxHeartbeats 4000000 in
/-- case 9: lost -/
theorem lc_lost {g : am_g} {cJ : ClassId} {o : Nat} {p : Program} {l : Launch} {e : Env} {s : State} {m : MethodId} {args : Array Value} {below : List Frame} {meth : Method} {c : Code} {cells slots : Nat} {Q : State → Prop} {b L i : Nat} {xs : Nat → Int32} (hl : l.stackTraces = false) (hIC : am_inj (gC g)) (hIR : am_inj (gR g)) (C : lC g cJ o p s m args c) (hX : va_X b L xs s s.heap) (hbl : b < s.heap.size) (hL : L ≤ 2560) (hi : i + 5 ≤ L) (hc0 : cells + 3 ≤ room_1.cells) (hs0 : slots + 18 ≤ room_1.slots) (S : ab_S) (σ ρ : am_M) (v : Int64) (H : Heap) (locs : List Loc) (ls : Array Slot) (hI : lI S σ ρ) (hw : lL g cJ o σ ρ v H) (hS : va_S (lB s) s.heap H locs) (hlv : lv_has ls 7 (lV g o b i)) (hn : lNext g cJ o b i p l e s m args below meth c (cells + 3) (slots + 18) Q) : W p l e room_1 s m args below meth c H locs cells slots Q (F0 m 634 ls []) := by
  have hx := C.1.1
  have hb := C.1.2.1
  have hcl : 0 ≤ S 19 3 ∧ S 19 3 ≤ 100000 := hI.2.2.2.2
  refine lv_aload_n hx hb dL_law_634 rfl (lv_at hlv 1 rfl) ?_
  refine ll_arg C hX hbl hL 1 (by omega) (by omega) hS (lv_at hlv 0 rfl) (lv_at hlv 4 rfl) dL_law_635 dL_law_636 dL_law_638 dL_law_639 dL_law_640 ?_
  refine lv_aload_n hx hb dL_law_641 rfl (lv_at hlv 3 rfl) ?_
  refine ll_wr (av := [.ref (g.2.2 0 0), .int (Int32.ofInt (pA xs (i + 1))), .ref o]) (rest := []) (n := 3) C (w_lost l hl g hIC cJ o v σ (pA xs (i + 1)) (pA_r xs _) S _ hI.1 hI.2.2.1) (vx_cwSW 3 C.1.2.2.2.2 gL_law_L_lost rfl rfl rfl (by decide +kernel) ⟨Nat.le_of_ble_eq_true rfl, Nat.le_of_ble_eq_true rfl⟩) rfl (Nat.le_of_ble_eq_true rfl) dL_law_642 ⟨by omega, by omega⟩ hw hS hlv.1 (fun k v1 σ1 H1 locs1 hp hw1 hS1 => ?_)
  have hk : 0 ≤ k ∧ k ≤ 2 := by
    rcases hp with ⟨h, -⟩ | ⟨E, -, -, -, h⟩
    · rw [h]; omega
    · rw [h]; exact lK_12 E
  refine lv_istore (lv' := (5, .int (Int32.ofInt k)) :: lV g o b i) hx hb dL_law_645 hlv (by decide) rfl (fun ls hlv => ?_)
  refine lv_aload_n hx hb dL_law_647 rfl (lv_at hlv 3 rfl) ?_
  refine ll_arg C hX hbl hL 1 (by omega) (by omega) hS1 (lv_at hlv 1 rfl) (lv_at hlv 5 rfl) dL_law_648 dL_law_649 dL_law_651 dL_law_652 dL_law_653 ?_
  refine ll_md (av := [.inl (pA xs (i + 1))]) (rest := []) (n := 1) C (c_X6_lost l g hIR ρ (pA xs (i + 1)) (pA_r xs _) S _ hI.2.1 hI.2.2.1) (cwV 1 C.1.2.2.2.2 gL_law_X6_lost rfl rfl rfl (by decide +kernel) ⟨Nat.le_of_ble_eq_true rfl, Nat.le_of_ble_eq_true rfl⟩) rfl (Nat.le_of_ble_eq_true rfl) dL_law_654 ⟨by omega, by omega⟩ hw1 hS1 hlv.1 (fun x ρ1 H2 locs2 hm hw2 hS2 => ?_)
  have hE : lE σ1 ρ1 k v1 x := lE_get lK_IO hI hp hm
  refine W.widen (k := cells + 3) (n := slots + 18) (by omega) (by omega) ?_
  exact ll_tail C hIR hE (by omega) hc0 hs0 hw2 hS2 hlv hn (by decide) dL_law_657 dL_law_659 dL_law_660 dL_law_663 dL_law_665 dL_law_670 dL_law_672 dL_law_675 dL_law_676 dL_law_677 dL_law_678 dL_law_680 dL_law_681 dL_law_682 dL_law_687

set_option maxRecDepth 100000 in
set_option maxHeartbeats 4000000 in
/-- case 10: outOfOrder -/
theorem lc_outOfOrder {g : am_g} {cJ : ClassId} {o : Nat} {p : Program} {l : Launch} {e : Env} {s : State} {m : MethodId} {args : Array Value} {below : List Frame} {meth : Method} {c : Code} {cells slots : Nat} {Q : State → Prop} {b L i : Nat} {xs : Nat → Int32} (hl : l.stackTraces = false) (hIC : am_inj (gC g)) (hIR : am_inj (gR g)) (C : lC g cJ o p s m args c) (hX : va_X b L xs s s.heap) (hbl : b < s.heap.size) (hL : L ≤ 2560) (hi : i + 5 ≤ L) (hc0 : cells + 3 ≤ room_1.cells) (hs0 : slots + 18 ≤ room_1.slots) (S : ab_S) (σ ρ : am_M) (v : Int64) (H : Heap) (locs : List Loc) (ls : Array Slot) (hI : lI S σ ρ) (hw : lL g cJ o σ ρ v H) (hS : va_S (lB s) s.heap H locs) (hlv : lv_has ls 7 (lV g o b i)) (hn : lNext g cJ o b i p l e s m args below meth c (cells + 3) (slots + 18) Q) : W p l e room_1 s m args below meth c H locs cells slots Q (F0 m 690 ls []) := by
  have hx := C.1.1
  have hb := C.1.2.1
  have hcl : 0 ≤ S 19 3 ∧ S 19 3 ≤ 100000 := hI.2.2.2.2
  refine lv_aload_n hx hb dL_law_690 rfl (lv_at hlv 1 rfl) ?_
  refine ll_arg C hX hbl hL 1 (by omega) (by omega) hS (lv_at hlv 0 rfl) (lv_at hlv 4 rfl) dL_law_691 dL_law_692 dL_law_694 dL_law_695 dL_law_696 ?_
  refine lv_aload_n hx hb dL_law_697 rfl (lv_at hlv 3 rfl) ?_
  refine ll_wr (av := [.ref (g.2.2 0 0), .int (Int32.ofInt (pA xs (i + 1))), .ref o]) (rest := []) (n := 3) C (w_outOfOrder l hl g hIC cJ o v σ (pA xs (i + 1)) (pA_r xs _) S _ hI.1 hI.2.2.1) (vx_cwSW 3 C.1.2.2.2.2 gL_law_L_outOfOrder rfl rfl rfl (by decide +kernel) ⟨Nat.le_of_ble_eq_true rfl, Nat.le_of_ble_eq_true rfl⟩) rfl (Nat.le_of_ble_eq_true rfl) dL_law_698 ⟨by omega, by omega⟩ hw hS hlv.1 (fun k v1 σ1 H1 locs1 hp hw1 hS1 => ?_)
  have hk : 0 ≤ k ∧ k ≤ 2 := by
    rcases hp with ⟨h, -⟩ | ⟨E, -, -, -, h⟩
    · rw [h]; omega
    · rw [h]; exact lK_12 E
  refine lv_istore (lv' := (5, .int (Int32.ofInt k)) :: lV g o b i) hx hb dL_law_701 hlv (by decide) rfl (fun ls hlv => ?_)
  refine lv_aload_n hx hb dL_law_703 rfl (lv_at hlv 3 rfl) ?_
  refine ll_arg C hX hbl hL 1 (by omega) (by omega) hS1 (lv_at hlv 1 rfl) (lv_at hlv 5 rfl) dL_law_704 dL_law_705 dL_law_707 dL_law_708 dL_law_709 ?_
  refine ll_md (av := [.inl (pA xs (i + 1))]) (rest := []) (n := 1) C (c_X6_outOfOrder l g hIR ρ (pA xs (i + 1)) (pA_r xs _) S _ hI.2.1 hI.2.2.1) (cwV 1 C.1.2.2.2.2 gL_law_X6_outOfOrder rfl rfl rfl (by decide +kernel) ⟨Nat.le_of_ble_eq_true rfl, Nat.le_of_ble_eq_true rfl⟩) rfl (Nat.le_of_ble_eq_true rfl) dL_law_710 ⟨by omega, by omega⟩ hw1 hS1 hlv.1 (fun x ρ1 H2 locs2 hm hw2 hS2 => ?_)
  have hE : lE σ1 ρ1 k v1 x := lE_get lK_IO hI hp hm
  refine W.widen (k := cells + 3) (n := slots + 18) (by omega) (by omega) ?_
  exact ll_tail C hIR hE (by omega) hc0 hs0 hw2 hS2 hlv hn (by decide) dL_law_713 dL_law_715 dL_law_716 dL_law_719 dL_law_721 dL_law_726 dL_law_728 dL_law_731 dL_law_732 dL_law_733 dL_law_734 dL_law_736 dL_law_737 dL_law_738 dL_law_743

set_option maxRecDepth 100000 in
set_option maxHeartbeats 4000000 in
/-- case 11: doneIn -/
theorem lc_doneIn {g : am_g} {cJ : ClassId} {o : Nat} {p : Program} {l : Launch} {e : Env} {s : State} {m : MethodId} {args : Array Value} {below : List Frame} {meth : Method} {c : Code} {cells slots : Nat} {Q : State → Prop} {b L i : Nat} {xs : Nat → Int32} (hl : l.stackTraces = false) (hIC : am_inj (gC g)) (hIR : am_inj (gR g)) (C : lC g cJ o p s m args c) (hX : va_X b L xs s s.heap) (hbl : b < s.heap.size) (hL : L ≤ 2560) (hi : i + 5 ≤ L) (hc0 : cells + 3 ≤ room_1.cells) (hs0 : slots + 18 ≤ room_1.slots) (S : ab_S) (σ ρ : am_M) (v : Int64) (H : Heap) (locs : List Loc) (ls : Array Slot) (hI : lI S σ ρ) (hw : lL g cJ o σ ρ v H) (hS : va_S (lB s) s.heap H locs) (hlv : lv_has ls 7 (lV g o b i)) (hn : lNext g cJ o b i p l e s m args below meth c (cells + 3) (slots + 18) Q) : W p l e room_1 s m args below meth c H locs cells slots Q (F0 m 746 ls []) := by
  have hx := C.1.1
  have hb := C.1.2.1
  have hcl : 0 ≤ S 19 3 ∧ S 19 3 ≤ 100000 := hI.2.2.2.2
  refine lv_aload_n hx hb dL_law_746 rfl (lv_at hlv 1 rfl) ?_
  refine ll_arg C hX hbl hL 1 (by omega) (by omega) hS (lv_at hlv 0 rfl) (lv_at hlv 4 rfl) dL_law_747 dL_law_748 dL_law_750 dL_law_751 dL_law_752 ?_
  refine lv_aload_n hx hb dL_law_753 rfl (lv_at hlv 3 rfl) ?_
  refine ll_wr (av := [.ref (g.2.2 0 0), .int (Int32.ofInt (pA xs (i + 1))), .ref o]) (rest := []) (n := 3) C (w_doneIn l hl g hIC cJ o v σ (pA xs (i + 1)) (pA_r xs _) S _ hI.1 hI.2.2.1) (vx_cwSW 3 C.1.2.2.2.2 gL_law_L_doneIn rfl rfl rfl (by decide +kernel) ⟨Nat.le_of_ble_eq_true rfl, Nat.le_of_ble_eq_true rfl⟩) rfl (Nat.le_of_ble_eq_true rfl) dL_law_754 ⟨by omega, by omega⟩ hw hS hlv.1 (fun k v1 σ1 H1 locs1 hp hw1 hS1 => ?_)
  have hk : 0 ≤ k ∧ k ≤ 2 := by
    rcases hp with ⟨h, -⟩ | ⟨E, -, -, -, h⟩
    · rw [h]; omega
    · rw [h]; exact lK_12 E
  refine lv_istore (lv' := (5, .int (Int32.ofInt k)) :: lV g o b i) hx hb dL_law_757 hlv (by decide) rfl (fun ls hlv => ?_)
  refine lv_aload_n hx hb dL_law_759 rfl (lv_at hlv 3 rfl) ?_
  refine ll_arg C hX hbl hL 1 (by omega) (by omega) hS1 (lv_at hlv 1 rfl) (lv_at hlv 5 rfl) dL_law_760 dL_law_761 dL_law_763 dL_law_764 dL_law_765 ?_
  refine ll_md (av := [.inl (pA xs (i + 1))]) (rest := []) (n := 1) C (c_X6_doneIn l g hIR ρ (pA xs (i + 1)) (pA_r xs _) S _ hI.2.1 hI.2.2.1) (cwV 1 C.1.2.2.2.2 gL_law_X6_doneIn rfl rfl rfl (by decide +kernel) ⟨Nat.le_of_ble_eq_true rfl, Nat.le_of_ble_eq_true rfl⟩) rfl (Nat.le_of_ble_eq_true rfl) dL_law_766 ⟨by omega, by omega⟩ hw1 hS1 hlv.1 (fun x ρ1 H2 locs2 hm hw2 hS2 => ?_)
  have hE : lE σ1 ρ1 k v1 x := lE_get lK_IO hI hp hm
  refine W.widen (k := cells + 3) (n := slots + 18) (by omega) (by omega) ?_
  exact ll_tail C hIR hE (by omega) hc0 hs0 hw2 hS2 hlv hn (by decide) dL_law_769 dL_law_771 dL_law_772 dL_law_775 dL_law_777 dL_law_782 dL_law_784 dL_law_787 dL_law_788 dL_law_789 dL_law_790 dL_law_792 dL_law_793 dL_law_794 dL_law_799

set_option maxRecDepth 100000 in
set_option maxHeartbeats 4000000 in
/-- case 12: flowlets -/
theorem lc_flowlets {g : am_g} {cJ : ClassId} {o : Nat} {p : Program} {l : Launch} {e : Env} {s : State} {m : MethodId} {args : Array Value} {below : List Frame} {meth : Method} {c : Code} {cells slots : Nat} {Q : State → Prop} {b L i : Nat} {xs : Nat → Int32} (hl : l.stackTraces = false) (hIC : am_inj (gC g)) (hIR : am_inj (gR g)) (C : lC g cJ o p s m args c) (hX : va_X b L xs s s.heap) (hbl : b < s.heap.size) (hL : L ≤ 2560) (hi : i + 5 ≤ L) (hc0 : cells + 3 ≤ room_1.cells) (hs0 : slots + 18 ≤ room_1.slots) (S : ab_S) (σ ρ : am_M) (v : Int64) (H : Heap) (locs : List Loc) (ls : Array Slot) (hI : lI S σ ρ) (hw : lL g cJ o σ ρ v H) (hS : va_S (lB s) s.heap H locs) (hlv : lv_has ls 7 (lV g o b i)) (hn : lNext g cJ o b i p l e s m args below meth c (cells + 3) (slots + 18) Q) : W p l e room_1 s m args below meth c H locs cells slots Q (F0 m 802 ls []) := by
  have hx := C.1.1
  have hb := C.1.2.1
  have hcl : 0 ≤ S 19 3 ∧ S 19 3 ≤ 100000 := hI.2.2.2.2
  refine lv_aload_n hx hb dL_law_802 rfl (lv_at hlv 1 rfl) ?_
  refine ll_arg C hX hbl hL 1 (by omega) (by omega) hS (lv_at hlv 0 rfl) (lv_at hlv 4 rfl) dL_law_803 dL_law_804 dL_law_806 dL_law_807 dL_law_808 ?_
  refine lv_aload_n hx hb dL_law_809 rfl (lv_at hlv 3 rfl) ?_
  refine ll_wr (av := [.ref (g.2.2 0 0), .int (Int32.ofInt (pA xs (i + 1))), .ref o]) (rest := []) (n := 3) C (w_flowlets l hl g hIC cJ o v σ (pA xs (i + 1)) (pA_r xs _) S _ hI.1 hI.2.2.1) (vx_cwSW 3 C.1.2.2.2.2 gL_law_L_flowlets rfl rfl rfl (by decide +kernel) ⟨Nat.le_of_ble_eq_true rfl, Nat.le_of_ble_eq_true rfl⟩) rfl (Nat.le_of_ble_eq_true rfl) dL_law_810 ⟨by omega, by omega⟩ hw hS hlv.1 (fun k v1 σ1 H1 locs1 hp hw1 hS1 => ?_)
  have hk : 0 ≤ k ∧ k ≤ 2 := by
    rcases hp with ⟨h, -⟩ | ⟨E, -, -, -, h⟩
    · rw [h]; omega
    · rw [h]; exact lK_12 E
  refine lv_istore (lv' := (5, .int (Int32.ofInt k)) :: lV g o b i) hx hb dL_law_813 hlv (by decide) rfl (fun ls hlv => ?_)
  refine lv_aload_n hx hb dL_law_815 rfl (lv_at hlv 3 rfl) ?_
  refine ll_arg C hX hbl hL 1 (by omega) (by omega) hS1 (lv_at hlv 1 rfl) (lv_at hlv 5 rfl) dL_law_816 dL_law_817 dL_law_819 dL_law_820 dL_law_821 ?_
  refine ll_md (av := [.inl (pA xs (i + 1))]) (rest := []) (n := 1) C (c_X6_flowlets l g hIR ρ (pA xs (i + 1)) (pA_r xs _) S _ hI.2.1 hI.2.2.1) (cwV 1 C.1.2.2.2.2 gL_law_X6_flowlets rfl rfl rfl (by decide +kernel) ⟨Nat.le_of_ble_eq_true rfl, Nat.le_of_ble_eq_true rfl⟩) rfl (Nat.le_of_ble_eq_true rfl) dL_law_822 ⟨by omega, by omega⟩ hw1 hS1 hlv.1 (fun x ρ1 H2 locs2 hm hw2 hS2 => ?_)
  have hE : lE σ1 ρ1 k v1 x := lE_get lK_IO hI hp hm
  refine W.widen (k := cells + 3) (n := slots + 18) (by omega) (by omega) ?_
  exact ll_tail C hIR hE (by omega) hc0 hs0 hw2 hS2 hlv hn (by decide) dL_law_825 dL_law_827 dL_law_828 dL_law_831 dL_law_833 dL_law_838 dL_law_840 dL_law_843 dL_law_844 dL_law_845 dL_law_846 dL_law_848 dL_law_849 dL_law_850 dL_law_855

set_option maxRecDepth 100000 in
set_option maxHeartbeats 4000000 in
/-- case 13: spineOf -/
theorem lc_spineOf {g : am_g} {cJ : ClassId} {o : Nat} {p : Program} {l : Launch} {e : Env} {s : State} {m : MethodId} {args : Array Value} {below : List Frame} {meth : Method} {c : Code} {cells slots : Nat} {Q : State → Prop} {b L i : Nat} {xs : Nat → Int32} (hl : l.stackTraces = false) (hIC : am_inj (gC g)) (hIR : am_inj (gR g)) (C : lC g cJ o p s m args c) (hX : va_X b L xs s s.heap) (hbl : b < s.heap.size) (hL : L ≤ 2560) (hi : i + 5 ≤ L) (hc0 : cells + 3 ≤ room_1.cells) (hs0 : slots + 18 ≤ room_1.slots) (S : ab_S) (σ ρ : am_M) (v : Int64) (H : Heap) (locs : List Loc) (ls : Array Slot) (hI : lI S σ ρ) (hw : lL g cJ o σ ρ v H) (hS : va_S (lB s) s.heap H locs) (hlv : lv_has ls 7 (lV g o b i)) (hn : lNext g cJ o b i p l e s m args below meth c (cells + 3) (slots + 18) Q) : W p l e room_1 s m args below meth c H locs cells slots Q (F0 m 858 ls []) := by
  have hx := C.1.1
  have hb := C.1.2.1
  have hcl : 0 ≤ S 19 3 ∧ S 19 3 ≤ 100000 := hI.2.2.2.2
  refine lv_aload_n hx hb dL_law_858 rfl (lv_at hlv 1 rfl) ?_
  refine ll_arg C hX hbl hL 1 (by omega) (by omega) hS (lv_at hlv 0 rfl) (lv_at hlv 4 rfl) dL_law_859 dL_law_860 dL_law_862 dL_law_863 dL_law_864 ?_
  refine lv_aload_n hx hb dL_law_865 rfl (lv_at hlv 3 rfl) ?_
  refine ll_wr (av := [.ref (g.2.2 0 0), .int (Int32.ofInt (pA xs (i + 1))), .ref o]) (rest := []) (n := 3) C (w_spineOf l hl g hIC cJ o v σ (pA xs (i + 1)) (pA_r xs _) S _ hI.1 hI.2.2.1) (vx_cwSW 3 C.1.2.2.2.2 gL_law_L_spineOf rfl rfl rfl (by decide +kernel) ⟨Nat.le_of_ble_eq_true rfl, Nat.le_of_ble_eq_true rfl⟩) rfl (Nat.le_of_ble_eq_true rfl) dL_law_866 ⟨by omega, by omega⟩ hw hS hlv.1 (fun k v1 σ1 H1 locs1 hp hw1 hS1 => ?_)
  have hk : 0 ≤ k ∧ k ≤ 2 := by
    rcases hp with ⟨h, -⟩ | ⟨E, -, -, -, h⟩
    · rw [h]; omega
    · rw [h]; exact lK_12 E
  refine lv_istore (lv' := (5, .int (Int32.ofInt k)) :: lV g o b i) hx hb dL_law_869 hlv (by decide) rfl (fun ls hlv => ?_)
  refine lv_aload_n hx hb dL_law_871 rfl (lv_at hlv 3 rfl) ?_
  refine ll_arg C hX hbl hL 1 (by omega) (by omega) hS1 (lv_at hlv 1 rfl) (lv_at hlv 5 rfl) dL_law_872 dL_law_873 dL_law_875 dL_law_876 dL_law_877 ?_
  refine ll_md (av := [.inl (pA xs (i + 1))]) (rest := []) (n := 1) C (c_X6_spineOf l g hIR ρ (pA xs (i + 1)) (pA_r xs _) S _ hI.2.1 hI.2.2.1) (cwV 1 C.1.2.2.2.2 gL_law_X6_spineOf rfl rfl rfl (by decide +kernel) ⟨Nat.le_of_ble_eq_true rfl, Nat.le_of_ble_eq_true rfl⟩) rfl (Nat.le_of_ble_eq_true rfl) dL_law_878 ⟨by omega, by omega⟩ hw1 hS1 hlv.1 (fun x ρ1 H2 locs2 hm hw2 hS2 => ?_)
  have hE : lE σ1 ρ1 k v1 x := lE_get lK_IO hI hp hm
  refine W.widen (k := cells + 3) (n := slots + 18) (by omega) (by omega) ?_
  exact ll_tail C hIR hE (by omega) hc0 hs0 hw2 hS2 hlv hn (by decide) dL_law_881 dL_law_883 dL_law_884 dL_law_887 dL_law_889 dL_law_894 dL_law_896 dL_law_899 dL_law_900 dL_law_901 dL_law_902 dL_law_904 dL_law_905 dL_law_906 dL_law_911

set_option maxRecDepth 100000 in
set_option maxHeartbeats 4000000 in
/-- case 14: upQueue -/
theorem lc_upQueue {g : am_g} {cJ : ClassId} {o : Nat} {p : Program} {l : Launch} {e : Env} {s : State} {m : MethodId} {args : Array Value} {below : List Frame} {meth : Method} {c : Code} {cells slots : Nat} {Q : State → Prop} {b L i : Nat} {xs : Nat → Int32} (hl : l.stackTraces = false) (hIC : am_inj (gC g)) (hIR : am_inj (gR g)) (C : lC g cJ o p s m args c) (hX : va_X b L xs s s.heap) (hbl : b < s.heap.size) (hL : L ≤ 2560) (hi : i + 5 ≤ L) (hc0 : cells + 3 ≤ room_1.cells) (hs0 : slots + 18 ≤ room_1.slots) (S : ab_S) (σ ρ : am_M) (v : Int64) (H : Heap) (locs : List Loc) (ls : Array Slot) (hI : lI S σ ρ) (hw : lL g cJ o σ ρ v H) (hS : va_S (lB s) s.heap H locs) (hlv : lv_has ls 7 (lV g o b i)) (hn : lNext g cJ o b i p l e s m args below meth c (cells + 3) (slots + 18) Q) : W p l e room_1 s m args below meth c H locs cells slots Q (F0 m 914 ls []) := by
  have hx := C.1.1
  have hb := C.1.2.1
  have hcl : 0 ≤ S 19 3 ∧ S 19 3 ≤ 100000 := hI.2.2.2.2
  refine lv_aload_n hx hb dL_law_914 rfl (lv_at hlv 1 rfl) ?_
  refine ll_arg C hX hbl hL 1 (by omega) (by omega) hS (lv_at hlv 0 rfl) (lv_at hlv 4 rfl) dL_law_915 dL_law_916 dL_law_918 dL_law_919 dL_law_920 ?_
  refine lv_aload_n hx hb dL_law_921 rfl (lv_at hlv 3 rfl) ?_
  refine ll_wr (av := [.ref (g.2.2 0 0), .int (Int32.ofInt (pA xs (i + 1))), .ref o]) (rest := []) (n := 3) C (w_upQueue l hl g hIC cJ o v σ (pA xs (i + 1)) (pA_r xs _) S _ hI.1 hI.2.2.1) (vx_cwSW 3 C.1.2.2.2.2 gL_law_L_upQueue rfl rfl rfl (by decide +kernel) ⟨Nat.le_of_ble_eq_true rfl, Nat.le_of_ble_eq_true rfl⟩) rfl (Nat.le_of_ble_eq_true rfl) dL_law_922 ⟨by omega, by omega⟩ hw hS hlv.1 (fun k v1 σ1 H1 locs1 hp hw1 hS1 => ?_)
  have hk : 0 ≤ k ∧ k ≤ 2 := by
    rcases hp with ⟨h, -⟩ | ⟨E, -, -, -, h⟩
    · rw [h]; omega
    · rw [h]; exact lK_12 E
  refine lv_istore (lv' := (5, .int (Int32.ofInt k)) :: lV g o b i) hx hb dL_law_925 hlv (by decide) rfl (fun ls hlv => ?_)
  refine lv_aload_n hx hb dL_law_927 rfl (lv_at hlv 3 rfl) ?_
  refine ll_arg C hX hbl hL 1 (by omega) (by omega) hS1 (lv_at hlv 1 rfl) (lv_at hlv 5 rfl) dL_law_928 dL_law_929 dL_law_931 dL_law_932 dL_law_933 ?_
  refine ll_md (av := [.inl (pA xs (i + 1))]) (rest := []) (n := 1) C (c_X6_upQueue l g hIR ρ (pA xs (i + 1)) (pA_r xs _) S _ hI.2.1 hI.2.2.1) (cwV 1 C.1.2.2.2.2 gL_law_X6_upQueue rfl rfl rfl (by decide +kernel) ⟨Nat.le_of_ble_eq_true rfl, Nat.le_of_ble_eq_true rfl⟩) rfl (Nat.le_of_ble_eq_true rfl) dL_law_934 ⟨by omega, by omega⟩ hw1 hS1 hlv.1 (fun x ρ1 H2 locs2 hm hw2 hS2 => ?_)
  have hE : lE σ1 ρ1 k v1 x := lE_get lK_IA hI hp hm
  refine W.widen (k := cells + 3) (n := slots + 18) (by omega) (by omega) ?_
  exact ll_tail C hIR hE (by omega) hc0 hs0 hw2 hS2 hlv hn (by decide) dL_law_937 dL_law_939 dL_law_940 dL_law_943 dL_law_945 dL_law_950 dL_law_952 dL_law_955 dL_law_956 dL_law_957 dL_law_958 dL_law_960 dL_law_961 dL_law_962 dL_law_967

set_option maxRecDepth 100000 in
set_option maxHeartbeats 4000000 in
/-- case 15: downQueue -/
theorem lc_downQueue {g : am_g} {cJ : ClassId} {o : Nat} {p : Program} {l : Launch} {e : Env} {s : State} {m : MethodId} {args : Array Value} {below : List Frame} {meth : Method} {c : Code} {cells slots : Nat} {Q : State → Prop} {b L i : Nat} {xs : Nat → Int32} (hl : l.stackTraces = false) (hIC : am_inj (gC g)) (hIR : am_inj (gR g)) (C : lC g cJ o p s m args c) (hX : va_X b L xs s s.heap) (hbl : b < s.heap.size) (hL : L ≤ 2560) (hi : i + 5 ≤ L) (hc0 : cells + 3 ≤ room_1.cells) (hs0 : slots + 18 ≤ room_1.slots) (S : ab_S) (σ ρ : am_M) (v : Int64) (H : Heap) (locs : List Loc) (ls : Array Slot) (hI : lI S σ ρ) (hw : lL g cJ o σ ρ v H) (hS : va_S (lB s) s.heap H locs) (hlv : lv_has ls 7 (lV g o b i)) (hn : lNext g cJ o b i p l e s m args below meth c (cells + 3) (slots + 18) Q) : W p l e room_1 s m args below meth c H locs cells slots Q (F0 m 970 ls []) := by
  have hx := C.1.1
  have hb := C.1.2.1
  have hcl : 0 ≤ S 19 3 ∧ S 19 3 ≤ 100000 := hI.2.2.2.2
  refine lv_aload_n hx hb dL_law_970 rfl (lv_at hlv 1 rfl) ?_
  refine ll_arg C hX hbl hL 1 (by omega) (by omega) hS (lv_at hlv 0 rfl) (lv_at hlv 4 rfl) dL_law_971 dL_law_972 dL_law_974 dL_law_975 dL_law_976 ?_
  refine lv_aload_n hx hb dL_law_977 rfl (lv_at hlv 3 rfl) ?_
  refine ll_wr (av := [.ref (g.2.2 0 0), .int (Int32.ofInt (pA xs (i + 1))), .ref o]) (rest := []) (n := 3) C (w_downQueue l hl g hIC cJ o v σ (pA xs (i + 1)) (pA_r xs _) S _ hI.1 hI.2.2.1) (vx_cwSW 3 C.1.2.2.2.2 gL_law_L_downQueue rfl rfl rfl (by decide +kernel) ⟨Nat.le_of_ble_eq_true rfl, Nat.le_of_ble_eq_true rfl⟩) rfl (Nat.le_of_ble_eq_true rfl) dL_law_978 ⟨by omega, by omega⟩ hw hS hlv.1 (fun k v1 σ1 H1 locs1 hp hw1 hS1 => ?_)
  have hk : 0 ≤ k ∧ k ≤ 2 := by
    rcases hp with ⟨h, -⟩ | ⟨E, -, -, -, h⟩
    · rw [h]; omega
    · rw [h]; exact lK_12 E
  refine lv_istore (lv' := (5, .int (Int32.ofInt k)) :: lV g o b i) hx hb dL_law_981 hlv (by decide) rfl (fun ls hlv => ?_)
  refine lv_aload_n hx hb dL_law_983 rfl (lv_at hlv 3 rfl) ?_
  refine ll_arg C hX hbl hL 1 (by omega) (by omega) hS1 (lv_at hlv 1 rfl) (lv_at hlv 5 rfl) dL_law_984 dL_law_985 dL_law_987 dL_law_988 dL_law_989 ?_
  refine ll_md (av := [.inl (pA xs (i + 1))]) (rest := []) (n := 1) C (c_X6_downQueue l g hIR ρ (pA xs (i + 1)) (pA_r xs _) S _ hI.2.1 hI.2.2.1) (cwV 1 C.1.2.2.2.2 gL_law_X6_downQueue rfl rfl rfl (by decide +kernel) ⟨Nat.le_of_ble_eq_true rfl, Nat.le_of_ble_eq_true rfl⟩) rfl (Nat.le_of_ble_eq_true rfl) dL_law_990 ⟨by omega, by omega⟩ hw1 hS1 hlv.1 (fun x ρ1 H2 locs2 hm hw2 hS2 => ?_)
  have hE : lE σ1 ρ1 k v1 x := lE_get lK_IA hI hp hm
  refine W.widen (k := cells + 3) (n := slots + 18) (by omega) (by omega) ?_
  exact ll_tail C hIR hE (by omega) hc0 hs0 hw2 hS2 hlv hn (by decide) dL_law_993 dL_law_995 dL_law_996 dL_law_999 dL_law_1001 dL_law_1006 dL_law_1008 dL_law_1011 dL_law_1012 dL_law_1013 dL_law_1014 dL_law_1016 dL_law_1017 dL_law_1018 dL_law_1023

set_option maxRecDepth 100000 in
set_option maxHeartbeats 4000000 in
/-- case 16: northQueue -/
theorem lc_northQueue {g : am_g} {cJ : ClassId} {o : Nat} {p : Program} {l : Launch} {e : Env} {s : State} {m : MethodId} {args : Array Value} {below : List Frame} {meth : Method} {c : Code} {cells slots : Nat} {Q : State → Prop} {b L i : Nat} {xs : Nat → Int32} (hl : l.stackTraces = false) (hIC : am_inj (gC g)) (hIR : am_inj (gR g)) (C : lC g cJ o p s m args c) (hX : va_X b L xs s s.heap) (hbl : b < s.heap.size) (hL : L ≤ 2560) (hi : i + 5 ≤ L) (hc0 : cells + 3 ≤ room_1.cells) (hs0 : slots + 18 ≤ room_1.slots) (S : ab_S) (σ ρ : am_M) (v : Int64) (H : Heap) (locs : List Loc) (ls : Array Slot) (hI : lI S σ ρ) (hw : lL g cJ o σ ρ v H) (hS : va_S (lB s) s.heap H locs) (hlv : lv_has ls 7 (lV g o b i)) (hn : lNext g cJ o b i p l e s m args below meth c (cells + 3) (slots + 18) Q) : W p l e room_1 s m args below meth c H locs cells slots Q (F0 m 1026 ls []) := by
  have hx := C.1.1
  have hb := C.1.2.1
  have hcl : 0 ≤ S 19 3 ∧ S 19 3 ≤ 100000 := hI.2.2.2.2
  refine lv_aload_n hx hb dL_law_1026 rfl (lv_at hlv 1 rfl) ?_
  refine ll_arg C hX hbl hL 1 (by omega) (by omega) hS (lv_at hlv 0 rfl) (lv_at hlv 4 rfl) dL_law_1027 dL_law_1028 dL_law_1030 dL_law_1031 dL_law_1032 ?_
  refine ll_arg C hX hbl hL 2 (by omega) (by omega) hS (lv_at hlv 0 rfl) (lv_at hlv 4 rfl) dL_law_1033 dL_law_1034 dL_law_1036 dL_law_1037 dL_law_1038 ?_
  refine lv_aload_n hx hb dL_law_1039 rfl (lv_at hlv 3 rfl) ?_
  refine ll_wr (av := [.ref (g.2.2 0 0), .int (Int32.ofInt (pA xs (i + 1))), .int (Int32.ofInt (pA xs (i + 2))), .ref o]) (rest := []) (n := 4) C (w_northQueue l hl g hIC cJ o v σ (pA xs (i + 1)) (pA xs (i + 2)) (pA_r xs _) (pA_r xs _) S _ hI.1 hI.2.2.1) (vx_cwSW 4 C.1.2.2.2.2 gL_law_L_northQueue rfl rfl rfl (by decide +kernel) ⟨Nat.le_of_ble_eq_true rfl, Nat.le_of_ble_eq_true rfl⟩) rfl (Nat.le_of_ble_eq_true rfl) dL_law_1040 ⟨by omega, by omega⟩ hw hS hlv.1 (fun k v1 σ1 H1 locs1 hp hw1 hS1 => ?_)
  have hk : 0 ≤ k ∧ k ≤ 2 := by
    rcases hp with ⟨h, -⟩ | ⟨E, -, -, -, h⟩
    · rw [h]; omega
    · rw [h]; exact lK_12 E
  refine lv_istore (lv' := (5, .int (Int32.ofInt k)) :: lV g o b i) hx hb dL_law_1043 hlv (by decide) rfl (fun ls hlv => ?_)
  refine lv_aload_n hx hb dL_law_1045 rfl (lv_at hlv 3 rfl) ?_
  refine ll_arg C hX hbl hL 1 (by omega) (by omega) hS1 (lv_at hlv 1 rfl) (lv_at hlv 5 rfl) dL_law_1046 dL_law_1047 dL_law_1049 dL_law_1050 dL_law_1051 ?_
  refine ll_arg C hX hbl hL 2 (by omega) (by omega) hS1 (lv_at hlv 1 rfl) (lv_at hlv 5 rfl) dL_law_1052 dL_law_1053 dL_law_1055 dL_law_1056 dL_law_1057 ?_
  refine ll_md (av := [.inl (pA xs (i + 1)), .inl (pA xs (i + 2))]) (rest := []) (n := 2) C (c_X6_northQueue l g hIR ρ (pA xs (i + 1)) (pA xs (i + 2)) (pA_r xs _) (pA_r xs _) S _ hI.2.1 hI.2.2.1) (cwV 2 C.1.2.2.2.2 gL_law_X6_northQueue rfl rfl rfl (by decide +kernel) ⟨Nat.le_of_ble_eq_true rfl, Nat.le_of_ble_eq_true rfl⟩) rfl (Nat.le_of_ble_eq_true rfl) dL_law_1058 ⟨by omega, by omega⟩ hw1 hS1 hlv.1 (fun x ρ1 H2 locs2 hm hw2 hS2 => ?_)
  have hE : lE σ1 ρ1 k v1 x := lE_get lK_IA hI hp hm
  refine W.widen (k := cells + 3) (n := slots + 18) (by omega) (by omega) ?_
  exact ll_tail C hIR hE (by omega) hc0 hs0 hw2 hS2 hlv hn (by decide) dL_law_1061 dL_law_1063 dL_law_1064 dL_law_1067 dL_law_1069 dL_law_1074 dL_law_1076 dL_law_1079 dL_law_1080 dL_law_1081 dL_law_1082 dL_law_1084 dL_law_1085 dL_law_1086 dL_law_1091

set_option maxRecDepth 100000 in
set_option maxHeartbeats 4000000 in
/-- case 17: southQueue -/
theorem lc_southQueue {g : am_g} {cJ : ClassId} {o : Nat} {p : Program} {l : Launch} {e : Env} {s : State} {m : MethodId} {args : Array Value} {below : List Frame} {meth : Method} {c : Code} {cells slots : Nat} {Q : State → Prop} {b L i : Nat} {xs : Nat → Int32} (hl : l.stackTraces = false) (hIC : am_inj (gC g)) (hIR : am_inj (gR g)) (C : lC g cJ o p s m args c) (hX : va_X b L xs s s.heap) (hbl : b < s.heap.size) (hL : L ≤ 2560) (hi : i + 5 ≤ L) (hc0 : cells + 3 ≤ room_1.cells) (hs0 : slots + 18 ≤ room_1.slots) (S : ab_S) (σ ρ : am_M) (v : Int64) (H : Heap) (locs : List Loc) (ls : Array Slot) (hI : lI S σ ρ) (hw : lL g cJ o σ ρ v H) (hS : va_S (lB s) s.heap H locs) (hlv : lv_has ls 7 (lV g o b i)) (hn : lNext g cJ o b i p l e s m args below meth c (cells + 3) (slots + 18) Q) : W p l e room_1 s m args below meth c H locs cells slots Q (F0 m 1094 ls []) := by
  have hx := C.1.1
  have hb := C.1.2.1
  have hcl : 0 ≤ S 19 3 ∧ S 19 3 ≤ 100000 := hI.2.2.2.2
  refine lv_aload_n hx hb dL_law_1094 rfl (lv_at hlv 1 rfl) ?_
  refine ll_arg C hX hbl hL 1 (by omega) (by omega) hS (lv_at hlv 0 rfl) (lv_at hlv 4 rfl) dL_law_1095 dL_law_1096 dL_law_1098 dL_law_1099 dL_law_1100 ?_
  refine ll_arg C hX hbl hL 2 (by omega) (by omega) hS (lv_at hlv 0 rfl) (lv_at hlv 4 rfl) dL_law_1101 dL_law_1102 dL_law_1104 dL_law_1105 dL_law_1106 ?_
  refine lv_aload_n hx hb dL_law_1107 rfl (lv_at hlv 3 rfl) ?_
  refine ll_wr (av := [.ref (g.2.2 0 0), .int (Int32.ofInt (pA xs (i + 1))), .int (Int32.ofInt (pA xs (i + 2))), .ref o]) (rest := []) (n := 4) C (w_southQueue l hl g hIC cJ o v σ (pA xs (i + 1)) (pA xs (i + 2)) (pA_r xs _) (pA_r xs _) S _ hI.1 hI.2.2.1) (vx_cwSW 4 C.1.2.2.2.2 gL_law_L_southQueue rfl rfl rfl (by decide +kernel) ⟨Nat.le_of_ble_eq_true rfl, Nat.le_of_ble_eq_true rfl⟩) rfl (Nat.le_of_ble_eq_true rfl) dL_law_1108 ⟨by omega, by omega⟩ hw hS hlv.1 (fun k v1 σ1 H1 locs1 hp hw1 hS1 => ?_)
  have hk : 0 ≤ k ∧ k ≤ 2 := by
    rcases hp with ⟨h, -⟩ | ⟨E, -, -, -, h⟩
    · rw [h]; omega
    · rw [h]; exact lK_12 E
  refine lv_istore (lv' := (5, .int (Int32.ofInt k)) :: lV g o b i) hx hb dL_law_1111 hlv (by decide) rfl (fun ls hlv => ?_)
  refine lv_aload_n hx hb dL_law_1113 rfl (lv_at hlv 3 rfl) ?_
  refine ll_arg C hX hbl hL 1 (by omega) (by omega) hS1 (lv_at hlv 1 rfl) (lv_at hlv 5 rfl) dL_law_1114 dL_law_1115 dL_law_1117 dL_law_1118 dL_law_1119 ?_
  refine ll_arg C hX hbl hL 2 (by omega) (by omega) hS1 (lv_at hlv 1 rfl) (lv_at hlv 5 rfl) dL_law_1120 dL_law_1121 dL_law_1123 dL_law_1124 dL_law_1125 ?_
  refine ll_md (av := [.inl (pA xs (i + 1)), .inl (pA xs (i + 2))]) (rest := []) (n := 2) C (c_X6_southQueue l g hIR ρ (pA xs (i + 1)) (pA xs (i + 2)) (pA_r xs _) (pA_r xs _) S _ hI.2.1 hI.2.2.1) (cwV 2 C.1.2.2.2.2 gL_law_X6_southQueue rfl rfl rfl (by decide +kernel) ⟨Nat.le_of_ble_eq_true rfl, Nat.le_of_ble_eq_true rfl⟩) rfl (Nat.le_of_ble_eq_true rfl) dL_law_1126 ⟨by omega, by omega⟩ hw1 hS1 hlv.1 (fun x ρ1 H2 locs2 hm hw2 hS2 => ?_)
  have hE : lE σ1 ρ1 k v1 x := lE_get lK_IA hI hp hm
  refine W.widen (k := cells + 3) (n := slots + 18) (by omega) (by omega) ?_
  exact ll_tail C hIR hE (by omega) hc0 hs0 hw2 hS2 hlv hn (by decide) dL_law_1129 dL_law_1131 dL_law_1132 dL_law_1135 dL_law_1137 dL_law_1142 dL_law_1144 dL_law_1147 dL_law_1148 dL_law_1149 dL_law_1150 dL_law_1152 dL_law_1153 dL_law_1154 dL_law_1159

set_option maxRecDepth 100000 in
set_option maxHeartbeats 4000000 in
/-- case 18: upCredits -/
theorem lc_upCredits {g : am_g} {cJ : ClassId} {o : Nat} {p : Program} {l : Launch} {e : Env} {s : State} {m : MethodId} {args : Array Value} {below : List Frame} {meth : Method} {c : Code} {cells slots : Nat} {Q : State → Prop} {b L i : Nat} {xs : Nat → Int32} (hl : l.stackTraces = false) (hIC : am_inj (gC g)) (hIR : am_inj (gR g)) (C : lC g cJ o p s m args c) (hX : va_X b L xs s s.heap) (hbl : b < s.heap.size) (hL : L ≤ 2560) (hi : i + 5 ≤ L) (hc0 : cells + 3 ≤ room_1.cells) (hs0 : slots + 18 ≤ room_1.slots) (S : ab_S) (σ ρ : am_M) (v : Int64) (H : Heap) (locs : List Loc) (ls : Array Slot) (hI : lI S σ ρ) (hw : lL g cJ o σ ρ v H) (hS : va_S (lB s) s.heap H locs) (hlv : lv_has ls 7 (lV g o b i)) (hn : lNext g cJ o b i p l e s m args below meth c (cells + 3) (slots + 18) Q) : W p l e room_1 s m args below meth c H locs cells slots Q (F0 m 1162 ls []) := by
  have hx := C.1.1
  have hb := C.1.2.1
  have hcl : 0 ≤ S 19 3 ∧ S 19 3 ≤ 100000 := hI.2.2.2.2
  refine lv_aload_n hx hb dL_law_1162 rfl (lv_at hlv 1 rfl) ?_
  refine ll_arg C hX hbl hL 1 (by omega) (by omega) hS (lv_at hlv 0 rfl) (lv_at hlv 4 rfl) dL_law_1163 dL_law_1164 dL_law_1166 dL_law_1167 dL_law_1168 ?_
  refine lv_aload_n hx hb dL_law_1169 rfl (lv_at hlv 3 rfl) ?_
  refine ll_wr (av := [.ref (g.2.2 0 0), .int (Int32.ofInt (pA xs (i + 1))), .ref o]) (rest := []) (n := 3) C (w_upCredits l hl g hIC cJ o v σ (pA xs (i + 1)) (pA_r xs _) S _ hI.1 hI.2.2.1) (vx_cwSW 3 C.1.2.2.2.2 gL_law_L_upCredits rfl rfl rfl (by decide +kernel) ⟨Nat.le_of_ble_eq_true rfl, Nat.le_of_ble_eq_true rfl⟩) rfl (Nat.le_of_ble_eq_true rfl) dL_law_1170 ⟨by omega, by omega⟩ hw hS hlv.1 (fun k v1 σ1 H1 locs1 hp hw1 hS1 => ?_)
  have hk : 0 ≤ k ∧ k ≤ 2 := by
    rcases hp with ⟨h, -⟩ | ⟨E, -, -, -, h⟩
    · rw [h]; omega
    · rw [h]; exact lK_12 E
  refine lv_istore (lv' := (5, .int (Int32.ofInt k)) :: lV g o b i) hx hb dL_law_1173 hlv (by decide) rfl (fun ls hlv => ?_)
  refine lv_aload_n hx hb dL_law_1175 rfl (lv_at hlv 3 rfl) ?_
  refine ll_arg C hX hbl hL 1 (by omega) (by omega) hS1 (lv_at hlv 1 rfl) (lv_at hlv 5 rfl) dL_law_1176 dL_law_1177 dL_law_1179 dL_law_1180 dL_law_1181 ?_
  refine ll_md (av := [.inl (pA xs (i + 1))]) (rest := []) (n := 1) C (c_X6_upCredits l g hIR ρ (pA xs (i + 1)) (pA_r xs _) S _ hI.2.1 hI.2.2.1) (cwV 1 C.1.2.2.2.2 gL_law_X6_upCredits rfl rfl rfl (by decide +kernel) ⟨Nat.le_of_ble_eq_true rfl, Nat.le_of_ble_eq_true rfl⟩) rfl (Nat.le_of_ble_eq_true rfl) dL_law_1182 ⟨by omega, by omega⟩ hw1 hS1 hlv.1 (fun x ρ1 H2 locs2 hm hw2 hS2 => ?_)
  have hE : lE σ1 ρ1 k v1 x := lE_get lK_IA hI hp hm
  refine W.widen (k := cells + 3) (n := slots + 18) (by omega) (by omega) ?_
  exact ll_tail C hIR hE (by omega) hc0 hs0 hw2 hS2 hlv hn (by decide) dL_law_1185 dL_law_1187 dL_law_1188 dL_law_1191 dL_law_1193 dL_law_1198 dL_law_1200 dL_law_1203 dL_law_1204 dL_law_1205 dL_law_1206 dL_law_1208 dL_law_1209 dL_law_1210 dL_law_1215

set_option maxRecDepth 100000 in
set_option maxHeartbeats 4000000 in
/-- case 19: northCredits -/
theorem lc_northCredits {g : am_g} {cJ : ClassId} {o : Nat} {p : Program} {l : Launch} {e : Env} {s : State} {m : MethodId} {args : Array Value} {below : List Frame} {meth : Method} {c : Code} {cells slots : Nat} {Q : State → Prop} {b L i : Nat} {xs : Nat → Int32} (hl : l.stackTraces = false) (hIC : am_inj (gC g)) (hIR : am_inj (gR g)) (C : lC g cJ o p s m args c) (hX : va_X b L xs s s.heap) (hbl : b < s.heap.size) (hL : L ≤ 2560) (hi : i + 5 ≤ L) (hc0 : cells + 3 ≤ room_1.cells) (hs0 : slots + 18 ≤ room_1.slots) (S : ab_S) (σ ρ : am_M) (v : Int64) (H : Heap) (locs : List Loc) (ls : Array Slot) (hI : lI S σ ρ) (hw : lL g cJ o σ ρ v H) (hS : va_S (lB s) s.heap H locs) (hlv : lv_has ls 7 (lV g o b i)) (hn : lNext g cJ o b i p l e s m args below meth c (cells + 3) (slots + 18) Q) : W p l e room_1 s m args below meth c H locs cells slots Q (F0 m 1218 ls []) := by
  have hx := C.1.1
  have hb := C.1.2.1
  have hcl : 0 ≤ S 19 3 ∧ S 19 3 ≤ 100000 := hI.2.2.2.2
  refine lv_aload_n hx hb dL_law_1218 rfl (lv_at hlv 1 rfl) ?_
  refine ll_arg C hX hbl hL 1 (by omega) (by omega) hS (lv_at hlv 0 rfl) (lv_at hlv 4 rfl) dL_law_1219 dL_law_1220 dL_law_1222 dL_law_1223 dL_law_1224 ?_
  refine ll_arg C hX hbl hL 2 (by omega) (by omega) hS (lv_at hlv 0 rfl) (lv_at hlv 4 rfl) dL_law_1225 dL_law_1226 dL_law_1228 dL_law_1229 dL_law_1230 ?_
  refine lv_aload_n hx hb dL_law_1231 rfl (lv_at hlv 3 rfl) ?_
  refine ll_wr (av := [.ref (g.2.2 0 0), .int (Int32.ofInt (pA xs (i + 1))), .int (Int32.ofInt (pA xs (i + 2))), .ref o]) (rest := []) (n := 4) C (w_northCredits l hl g hIC cJ o v σ (pA xs (i + 1)) (pA xs (i + 2)) (pA_r xs _) (pA_r xs _) S _ hI.1 hI.2.2.1) (vx_cwSW 4 C.1.2.2.2.2 gL_law_L_northCredits rfl rfl rfl (by decide +kernel) ⟨Nat.le_of_ble_eq_true rfl, Nat.le_of_ble_eq_true rfl⟩) rfl (Nat.le_of_ble_eq_true rfl) dL_law_1232 ⟨by omega, by omega⟩ hw hS hlv.1 (fun k v1 σ1 H1 locs1 hp hw1 hS1 => ?_)
  have hk : 0 ≤ k ∧ k ≤ 2 := by
    rcases hp with ⟨h, -⟩ | ⟨E, -, -, -, h⟩
    · rw [h]; omega
    · rw [h]; exact lK_12 E
  refine lv_istore (lv' := (5, .int (Int32.ofInt k)) :: lV g o b i) hx hb dL_law_1235 hlv (by decide) rfl (fun ls hlv => ?_)
  refine lv_aload_n hx hb dL_law_1237 rfl (lv_at hlv 3 rfl) ?_
  refine ll_arg C hX hbl hL 1 (by omega) (by omega) hS1 (lv_at hlv 1 rfl) (lv_at hlv 5 rfl) dL_law_1238 dL_law_1239 dL_law_1241 dL_law_1242 dL_law_1243 ?_
  refine ll_arg C hX hbl hL 2 (by omega) (by omega) hS1 (lv_at hlv 1 rfl) (lv_at hlv 5 rfl) dL_law_1244 dL_law_1245 dL_law_1247 dL_law_1248 dL_law_1249 ?_
  refine ll_md (av := [.inl (pA xs (i + 1)), .inl (pA xs (i + 2))]) (rest := []) (n := 2) C (c_X6_northCredits l g hIR ρ (pA xs (i + 1)) (pA xs (i + 2)) (pA_r xs _) (pA_r xs _) S _ hI.2.1 hI.2.2.1) (cwV 2 C.1.2.2.2.2 gL_law_X6_northCredits rfl rfl rfl (by decide +kernel) ⟨Nat.le_of_ble_eq_true rfl, Nat.le_of_ble_eq_true rfl⟩) rfl (Nat.le_of_ble_eq_true rfl) dL_law_1250 ⟨by omega, by omega⟩ hw1 hS1 hlv.1 (fun x ρ1 H2 locs2 hm hw2 hS2 => ?_)
  have hE : lE σ1 ρ1 k v1 x := lE_get lK_IA hI hp hm
  refine W.widen (k := cells + 3) (n := slots + 18) (by omega) (by omega) ?_
  exact ll_tail C hIR hE (by omega) hc0 hs0 hw2 hS2 hlv hn (by decide) dL_law_1253 dL_law_1255 dL_law_1256 dL_law_1259 dL_law_1261 dL_law_1266 dL_law_1268 dL_law_1271 dL_law_1272 dL_law_1273 dL_law_1274 dL_law_1276 dL_law_1277 dL_law_1278 dL_law_1283

set_option maxRecDepth 100000 in
set_option maxHeartbeats 4000000 in
/-- case 20: returning -/
theorem lc_returning {g : am_g} {cJ : ClassId} {o : Nat} {p : Program} {l : Launch} {e : Env} {s : State} {m : MethodId} {args : Array Value} {below : List Frame} {meth : Method} {c : Code} {cells slots : Nat} {Q : State → Prop} {b L i : Nat} {xs : Nat → Int32} (hl : l.stackTraces = false) (hIC : am_inj (gC g)) (hIR : am_inj (gR g)) (C : lC g cJ o p s m args c) (hX : va_X b L xs s s.heap) (hbl : b < s.heap.size) (hL : L ≤ 2560) (hi : i + 5 ≤ L) (hc0 : cells + 3 ≤ room_1.cells) (hs0 : slots + 18 ≤ room_1.slots) (S : ab_S) (σ ρ : am_M) (v : Int64) (H : Heap) (locs : List Loc) (ls : Array Slot) (hI : lI S σ ρ) (hw : lL g cJ o σ ρ v H) (hS : va_S (lB s) s.heap H locs) (hlv : lv_has ls 7 (lV g o b i)) (hn : lNext g cJ o b i p l e s m args below meth c (cells + 3) (slots + 18) Q) : W p l e room_1 s m args below meth c H locs cells slots Q (F0 m 1286 ls []) := by
  have hx := C.1.1
  have hb := C.1.2.1
  have hcl : 0 ≤ S 19 3 ∧ S 19 3 ≤ 100000 := hI.2.2.2.2
  refine lv_aload_n hx hb dL_law_1286 rfl (lv_at hlv 1 rfl) ?_
  refine ll_cp (av := []) (rest := []) (n := 0) C (c_X5_returning l g hIC σ S _ hI.1 hI.2.2.1) (cwV 0 C.1.2.2.2.2 gL_law_X5_returning rfl rfl rfl (by decide +kernel) ⟨Nat.le_of_ble_eq_true rfl, Nat.le_of_ble_eq_true rfl⟩) rfl (Nat.le_of_ble_eq_true rfl) dL_law_1287 ⟨by omega, by omega⟩ hw hS hlv.1 (fun x σ1 H1 locs1 hp hw1 hS1 => ?_)
  obtain ⟨rfl, rfl⟩ := hp
  refine lv_aload_n hx hb dL_law_1290 rfl (lv_at hlv 2 rfl) ?_
  refine ll_md (av := []) (rest := [_]) (n := 0) C (c_X6_returning l g hIR ρ S _ hI.2.1 hI.2.2.1) (cwV 0 C.1.2.2.2.2 gL_law_X6_returning rfl rfl rfl (by decide +kernel) ⟨Nat.le_of_ble_eq_true rfl, Nat.le_of_ble_eq_true rfl⟩) rfl (Nat.le_of_ble_eq_true rfl) dL_law_1291 ⟨by omega, by omega⟩ hw1 hS1 hlv.1 (fun x ρ1 H2 locs2 hm hw2 hS2 => ?_)
  obtain ⟨hR, rfl⟩ := hm
  refine W.widen (k := cells + 3) (n := slots + 18) (by omega) (by omega) ?_
  exact lv_icmp_eq (tgt := 1449) hx hb dL_law_1294 (by decide) (fun _ => hn _ _ _ _ _ _ _ (lI_th hI hR) hw2 hS2 hlv) (fun h => absurd rfl h)

set_option maxRecDepth 100000 in
set_option maxHeartbeats 4000000 in
/-- case 21: queued -/
theorem lc_queued {g : am_g} {cJ : ClassId} {o : Nat} {p : Program} {l : Launch} {e : Env} {s : State} {m : MethodId} {args : Array Value} {below : List Frame} {meth : Method} {c : Code} {cells slots : Nat} {Q : State → Prop} {b L i : Nat} {xs : Nat → Int32} (hl : l.stackTraces = false) (hIC : am_inj (gC g)) (hIR : am_inj (gR g)) (C : lC g cJ o p s m args c) (hX : va_X b L xs s s.heap) (hbl : b < s.heap.size) (hL : L ≤ 2560) (hi : i + 5 ≤ L) (hc0 : cells + 3 ≤ room_1.cells) (hs0 : slots + 18 ≤ room_1.slots) (S : ab_S) (σ ρ : am_M) (v : Int64) (H : Heap) (locs : List Loc) (ls : Array Slot) (hI : lI S σ ρ) (hw : lL g cJ o σ ρ v H) (hS : va_S (lB s) s.heap H locs) (hlv : lv_has ls 7 (lV g o b i)) (hn : lNext g cJ o b i p l e s m args below meth c (cells + 3) (slots + 18) Q) : W p l e room_1 s m args below meth c H locs cells slots Q (F0 m 1299 ls []) := by
  have hx := C.1.1
  have hb := C.1.2.1
  have hcl : 0 ≤ S 19 3 ∧ S 19 3 ≤ 100000 := hI.2.2.2.2
  refine lv_aload_n hx hb dL_law_1299 rfl (lv_at hlv 1 rfl) ?_
  refine ll_cp (av := []) (rest := []) (n := 0) C (c_X5_queued l g hIC σ S _ hI.1 hI.2.2.1) (cwV 0 C.1.2.2.2.2 gL_law_X5_queued rfl rfl rfl (by decide +kernel) ⟨Nat.le_of_ble_eq_true rfl, Nat.le_of_ble_eq_true rfl⟩) rfl (Nat.le_of_ble_eq_true rfl) dL_law_1300 ⟨by omega, by omega⟩ hw hS hlv.1 (fun x σ1 H1 locs1 hp hw1 hS1 => ?_)
  obtain ⟨rfl, rfl⟩ := hp
  refine lv_aload_n hx hb dL_law_1303 rfl (lv_at hlv 2 rfl) ?_
  refine ll_md (av := []) (rest := [_]) (n := 0) C (c_X6_queued l g hIR ρ S _ hI.2.1 hI.2.2.1) (cwV 0 C.1.2.2.2.2 gL_law_X6_queued rfl rfl rfl (by decide +kernel) ⟨Nat.le_of_ble_eq_true rfl, Nat.le_of_ble_eq_true rfl⟩) rfl (Nat.le_of_ble_eq_true rfl) dL_law_1304 ⟨by omega, by omega⟩ hw1 hS1 hlv.1 (fun x ρ1 H2 locs2 hm hw2 hS2 => ?_)
  obtain ⟨hR, rfl⟩ := hm
  refine W.widen (k := cells + 3) (n := slots + 18) (by omega) (by omega) ?_
  exact lv_icmp_eq (tgt := 1449) hx hb dL_law_1307 (by decide) (fun _ => hn _ _ _ _ _ _ _ (lI_th hI hR) hw2 hS2 hlv) (fun h => absurd rfl h)

set_option maxRecDepth 100000 in
set_option maxHeartbeats 4000000 in
/-- case 22: open -/
theorem lc_open {g : am_g} {cJ : ClassId} {o : Nat} {p : Program} {l : Launch} {e : Env} {s : State} {m : MethodId} {args : Array Value} {below : List Frame} {meth : Method} {c : Code} {cells slots : Nat} {Q : State → Prop} {b L i : Nat} {xs : Nat → Int32} (hl : l.stackTraces = false) (hIC : am_inj (gC g)) (hIR : am_inj (gR g)) (C : lC g cJ o p s m args c) (hX : va_X b L xs s s.heap) (hbl : b < s.heap.size) (hL : L ≤ 2560) (hi : i + 5 ≤ L) (hc0 : cells + 3 ≤ room_1.cells) (hs0 : slots + 18 ≤ room_1.slots) (S : ab_S) (σ ρ : am_M) (v : Int64) (H : Heap) (locs : List Loc) (ls : Array Slot) (hI : lI S σ ρ) (hw : lL g cJ o σ ρ v H) (hS : va_S (lB s) s.heap H locs) (hlv : lv_has ls 7 (lV g o b i)) (hn : lNext g cJ o b i p l e s m args below meth c (cells + 3) (slots + 18) Q) : W p l e room_1 s m args below meth c H locs cells slots Q (F0 m 1312 ls []) := by
  have hx := C.1.1
  have hb := C.1.2.1
  have hcl : 0 ≤ S 19 3 ∧ S 19 3 ≤ 100000 := hI.2.2.2.2
  refine lv_aload_n hx hb dL_law_1312 rfl (lv_at hlv 1 rfl) ?_
  refine ll_arg C hX hbl hL 1 (by omega) (by omega) hS (lv_at hlv 0 rfl) (lv_at hlv 4 rfl) dL_law_1313 dL_law_1314 dL_law_1316 dL_law_1317 dL_law_1318 ?_
  refine lv_aload_n hx hb dL_law_1319 rfl (lv_at hlv 3 rfl) ?_
  refine ll_wr (av := [.ref (g.2.2 0 0), .int (Int32.ofInt (pA xs (i + 1))), .ref o]) (rest := []) (n := 3) C (w_open l hl g hIC cJ o v σ (pA xs (i + 1)) (pA_r xs _) S _ hI.1 hI.2.2.1) (vx_cwSW 3 C.1.2.2.2.2 gL_law_L_open rfl rfl rfl (by decide +kernel) ⟨Nat.le_of_ble_eq_true rfl, Nat.le_of_ble_eq_true rfl⟩) rfl (Nat.le_of_ble_eq_true rfl) dL_law_1320 ⟨by omega, by omega⟩ hw hS hlv.1 (fun k v1 σ1 H1 locs1 hp hw1 hS1 => ?_)
  have hk : 0 ≤ k ∧ k ≤ 2 := by
    rcases hp with ⟨h, -⟩ | ⟨E, -, -, -, h⟩
    · rw [h]; omega
    · rw [h]; exact lK_12 E
  refine lv_istore (lv' := (5, .int (Int32.ofInt k)) :: lV g o b i) hx hb dL_law_1323 hlv (by decide) rfl (fun ls hlv => ?_)
  refine lv_aload_n hx hb dL_law_1325 rfl (lv_at hlv 3 rfl) ?_
  refine ll_arg C hX hbl hL 1 (by omega) (by omega) hS1 (lv_at hlv 1 rfl) (lv_at hlv 5 rfl) dL_law_1326 dL_law_1327 dL_law_1329 dL_law_1330 dL_law_1331 ?_
  refine ll_md (av := [.inl (pA xs (i + 1))]) (rest := []) (n := 1) C (c_X6_open l g hIR ρ (pA xs (i + 1)) (pA_r xs _) S _ hI.2.1 hI.2.2.1) (cwV 1 C.1.2.2.2.2 gL_law_X6_open rfl rfl rfl (by decide +kernel) ⟨Nat.le_of_ble_eq_true rfl, Nat.le_of_ble_eq_true rfl⟩) rfl (Nat.le_of_ble_eq_true rfl) dL_law_1332 ⟨by omega, by omega⟩ hw1 hS1 hlv.1 (fun x ρ1 H2 locs2 hm hw2 hS2 => ?_)
  have hE : lE σ1 ρ1 k v1 x := lE_get lK_IA hI hp hm
  refine W.widen (k := cells + 3) (n := slots + 18) (by omega) (by omega) ?_
  exact ll_tail C hIR hE (by omega) hc0 hs0 hw2 hS2 hlv hn (by decide) dL_law_1335 dL_law_1337 dL_law_1338 dL_law_1341 dL_law_1343 dL_law_1348 dL_law_1350 dL_law_1353 dL_law_1354 dL_law_1355 dL_law_1356 dL_law_1358 dL_law_1359 dL_law_1360 dL_law_1365

set_option maxRecDepth 100000 in
set_option maxHeartbeats 4000000 in
/-- case 23: usable -/
theorem lc_usable {g : am_g} {cJ : ClassId} {o : Nat} {p : Program} {l : Launch} {e : Env} {s : State} {m : MethodId} {args : Array Value} {below : List Frame} {meth : Method} {c : Code} {cells slots : Nat} {Q : State → Prop} {b L i : Nat} {xs : Nat → Int32} (hl : l.stackTraces = false) (hIC : am_inj (gC g)) (hIR : am_inj (gR g)) (C : lC g cJ o p s m args c) (hX : va_X b L xs s s.heap) (hbl : b < s.heap.size) (hL : L ≤ 2560) (hi : i + 5 ≤ L) (hc0 : cells + 3 ≤ room_1.cells) (hs0 : slots + 18 ≤ room_1.slots) (S : ab_S) (σ ρ : am_M) (v : Int64) (H : Heap) (locs : List Loc) (ls : Array Slot) (hI : lI S σ ρ) (hw : lL g cJ o σ ρ v H) (hS : va_S (lB s) s.heap H locs) (hlv : lv_has ls 7 (lV g o b i)) (hn : lNext g cJ o b i p l e s m args below meth c (cells + 3) (slots + 18) Q) : W p l e room_1 s m args below meth c H locs cells slots Q (F0 m 1368 ls []) := by
  have hx := C.1.1
  have hb := C.1.2.1
  have hcl : 0 ≤ S 19 3 ∧ S 19 3 ≤ 100000 := hI.2.2.2.2
  refine lv_aload_n hx hb dL_law_1368 rfl (lv_at hlv 1 rfl) ?_
  refine ll_arg C hX hbl hL 1 (by omega) (by omega) hS (lv_at hlv 0 rfl) (lv_at hlv 4 rfl) dL_law_1369 dL_law_1370 dL_law_1372 dL_law_1373 dL_law_1374 ?_
  refine ll_arg C hX hbl hL 2 (by omega) (by omega) hS (lv_at hlv 0 rfl) (lv_at hlv 4 rfl) dL_law_1375 dL_law_1376 dL_law_1378 dL_law_1379 dL_law_1380 ?_
  refine lv_aload_n hx hb dL_law_1381 rfl (lv_at hlv 3 rfl) ?_
  refine ll_wr (av := [.ref (g.2.2 0 0), .int (Int32.ofInt (pA xs (i + 1))), .int (Int32.ofInt (pA xs (i + 2))), .ref o]) (rest := []) (n := 4) C (w_usable l hl g hIC cJ o v σ (pA xs (i + 1)) (pA xs (i + 2)) (pA_r xs _) (pA_r xs _) S _ hI.1 hI.2.2.1) (vx_cwSW 4 C.1.2.2.2.2 gL_law_L_usable rfl rfl rfl (by decide +kernel) ⟨Nat.le_of_ble_eq_true rfl, Nat.le_of_ble_eq_true rfl⟩) rfl (Nat.le_of_ble_eq_true rfl) dL_law_1382 ⟨by omega, by omega⟩ hw hS hlv.1 (fun k v1 σ1 H1 locs1 hp hw1 hS1 => ?_)
  have hk : 0 ≤ k ∧ k ≤ 2 := by
    rcases hp with ⟨h, -⟩ | ⟨E, -, -, -, h⟩
    · rw [h]; omega
    · rw [h]; exact lK_12 E
  refine lv_istore (lv' := (5, .int (Int32.ofInt k)) :: lV g o b i) hx hb dL_law_1385 hlv (by decide) rfl (fun ls hlv => ?_)
  refine lv_aload_n hx hb dL_law_1387 rfl (lv_at hlv 3 rfl) ?_
  refine ll_arg C hX hbl hL 1 (by omega) (by omega) hS1 (lv_at hlv 1 rfl) (lv_at hlv 5 rfl) dL_law_1388 dL_law_1389 dL_law_1391 dL_law_1392 dL_law_1393 ?_
  refine ll_arg C hX hbl hL 2 (by omega) (by omega) hS1 (lv_at hlv 1 rfl) (lv_at hlv 5 rfl) dL_law_1394 dL_law_1395 dL_law_1397 dL_law_1398 dL_law_1399 ?_
  refine ll_md (av := [.inl (pA xs (i + 1)), .inl (pA xs (i + 2))]) (rest := []) (n := 2) C (c_X6_usable l g hIR ρ (pA xs (i + 1)) (pA xs (i + 2)) (pA_r xs _) (pA_r xs _) S _ hI.2.1 hI.2.2.1) (cwV 2 C.1.2.2.2.2 gL_law_X6_usable rfl rfl rfl (by decide +kernel) ⟨Nat.le_of_ble_eq_true rfl, Nat.le_of_ble_eq_true rfl⟩) rfl (Nat.le_of_ble_eq_true rfl) dL_law_1400 ⟨by omega, by omega⟩ hw1 hS1 hlv.1 (fun x ρ1 H2 locs2 hm hw2 hS2 => ?_)
  have hE : lE σ1 ρ1 k v1 x := lE_get lK_IA hI hp hm
  refine W.widen (k := cells + 3) (n := slots + 18) (by omega) (by omega) ?_
  exact ll_tail C hIR hE (by omega) hc0 hs0 hw2 hS2 hlv hn (by decide) dL_law_1403 dL_law_1405 dL_law_1406 dL_law_1409 dL_law_1411 dL_law_1416 dL_law_1418 dL_law_1421 dL_law_1422 dL_law_1423 dL_law_1424 dL_law_1426 dL_law_1427 dL_law_1428 dL_law_1433

set_option maxRecDepth 100000 in
set_option maxHeartbeats 4000000 in
/-- case 24: leastTicks -/
theorem lc_leastTicks {g : am_g} {cJ : ClassId} {o : Nat} {p : Program} {l : Launch} {e : Env} {s : State} {m : MethodId} {args : Array Value} {below : List Frame} {meth : Method} {c : Code} {cells slots : Nat} {Q : State → Prop} {b L i : Nat} {xs : Nat → Int32} (hl : l.stackTraces = false) (hIC : am_inj (gC g)) (hIR : am_inj (gR g)) (C : lC g cJ o p s m args c) (hX : va_X b L xs s s.heap) (hbl : b < s.heap.size) (hL : L ≤ 2560) (hi : i + 5 ≤ L) (hc0 : cells + 3 ≤ room_1.cells) (hs0 : slots + 18 ≤ room_1.slots) (S : ab_S) (σ ρ : am_M) (v : Int64) (H : Heap) (locs : List Loc) (ls : Array Slot) (hI : lI S σ ρ) (hw : lL g cJ o σ ρ v H) (hS : va_S (lB s) s.heap H locs) (hlv : lv_has ls 7 (lV g o b i)) (hn : lNext g cJ o b i p l e s m args below meth c (cells + 3) (slots + 18) Q) : W p l e room_1 s m args below meth c H locs cells slots Q (F0 m 1436 ls []) := by
  have hx := C.1.1
  have hb := C.1.2.1
  have hcl : 0 ≤ S 19 3 ∧ S 19 3 ≤ 100000 := hI.2.2.2.2
  refine lv_aload_n hx hb dL_law_1436 rfl (lv_at hlv 1 rfl) ?_
  refine ll_cp (av := []) (rest := []) (n := 0) C (c_X5_leastTicks l g hIC σ (ab_u S 19 5 0) _ (lI_0 hI).1 (lI_0 hI).2.1 (lI_0 hI).2.2 (by omega)) (cwV 0 C.1.2.2.2.2 gL_law_X5_leastTicks rfl rfl rfl (by decide +kernel) ⟨Nat.le_of_ble_eq_true rfl, Nat.le_of_ble_eq_true rfl⟩) rfl (Nat.le_of_ble_eq_true rfl) dL_law_1437 ⟨by omega, by omega⟩ hw hS hlv.1 (fun x σ1 H1 locs1 hp hw1 hS1 => ?_)
  obtain ⟨rfl, rfl⟩ := hp
  refine lv_aload_n hx hb dL_law_1440 rfl (lv_at hlv 2 rfl) ?_
  refine ll_md (av := []) (rest := [_]) (n := 0) C (c_X6_leastTicks l g hIR ρ S _ hI.2.1 hI.2.2.1 hI.2.2.2.1 (by omega)) (cwV 0 C.1.2.2.2.2 gL_law_X6_leastTicks rfl rfl rfl (by decide +kernel) ⟨Nat.le_of_ble_eq_true rfl, Nat.le_of_ble_eq_true rfl⟩) rfl (Nat.le_of_ble_eq_true rfl) dL_law_1441 ⟨by omega, by omega⟩ hw1 hS1 hlv.1 (fun x ρ1 H2 locs2 hm hw2 hS2 => ?_)
  obtain ⟨hR, rfl⟩ := hm
  refine W.widen (k := cells + 3) (n := slots + 18) (by omega) (by omega) ?_
  exact lv_icmp_eq (tgt := 1449) hx hb dL_law_1444 (by decide) (fun _ => hn _ _ _ _ _ _ _ (lI_th hI hR) hw2 hS2 hlv) (fun h => absurd rfl h)
