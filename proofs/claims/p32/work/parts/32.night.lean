/-! THE LAW'S SMALL METHODS -/

set_option maxHeartbeats 4000000 in
set_option maxRecDepth 100000 in
theorem k_L_below {l : Launch} {s0 : State} {a0 : Array Value} {G : GG} (X : CX l s0 a0 G) {h : AH} {tg : Nat} (v : Int32) {n : Int32} (hn : ¬ n = 0)  : Con l s0 G yL_below cL_below 2 (some .int) 0 0 0 tg [.int v, .int n] h (RS (.int (blw v n)) h) := by
  refine Con.of X (by decide +kernel) [some (.int v), some (.int n)] rfl (Nat.le_of_ble_eq_true rfl) (fun p e s m below meth c X hnm hret => ?_)
  refine aw_ild0 X dL_below_0 rfl ?_
  refine aw_ldc X (2147483647) dL_below_1 rfl co_L_7 ?_
  refine aw_iand X dL_below_3 rfl ?_
  refine aw_ild1 X dL_below_4 rfl ?_
  refine aw_irem X dL_below_5 (hn) rfl ?_
  exact aw_iret X hret rfl dL_below_6 (⟨rfl, rfl⟩)

theorem k_below {l : Launch} {s0 : State} {a0 : Array Value} {G : GG} (X : CX l s0 a0 G) {h : AH} {tg : Nat} (v : Int32) {n : Int32} {N : Nat} (e : n = nI N) (h0 : 0 < N) (hN : N < 2 ^ 31) : Con l s0 G yL_below cL_below 2 (some .int) 0 0 0 tg [.int v, .int n] h (fun r h2 => ∃ j, j < N ∧ some (.int (nI j)) = r ∧ h = h2) := by
  refine Con.imp (k_L_below X v (by rw [e]; exact nI_ne0 h0 hN)) ?_
  rintro r h2 ⟨rfl, rfl⟩
  obtain ⟨j, hj, e2⟩ := blw_in v h0 hN
  exact ⟨j, hj, by rw [e, e2], rfl⟩

set_option maxHeartbeats 4000000 in
set_option maxRecDepth 100000 in
theorem k_L_cell {l : Launch} {s0 : State} {a0 : Array Value} {G : GG} (X : CX l s0 a0 G) {h : AH} {tg : Nat} {b L : Nat} {xs : Nat → Int32} (S : SX s0 b L xs) (hL : L ≤ 260) {j : Nat} {v : Int32} (hv : v = nI j) (hj : j < 1000)  : Con l s0 G yL_cell cL_cell 2 (some .int) 0 0 0 tg [.ref b, .int v] h (fun r h2 => (∃ x : Int32, some (.int x) = r) ∧ h = h2) := by
  refine Con.of X (by decide +kernel) [some (.ref b), some (.int v)] rfl (Nat.le_of_ble_eq_true rfl) (fun p e s m below meth c X hnm hret => ?_)
  refine aw_ild1 X dL_cell_0 rfl ?_
  refine aw_ald0 X dL_cell_1 rfl ?_
  refine aw_slen X S dL_cell_2 rfl ?_
  refine aw_icmp_ge (n2 := 12) X dL_cell_3 rfl rfl (fun c3 => ?_) (fun c3 => ?_)
  · refine aw_ldc X (790386105) dL_cell_12 rfl co_L_8 ?_
    refine aw_ild1 X dL_cell_14 rfl ?_
    refine aw_iconst X (3) dL_cell_15 (by decide) rfl ?_
    refine aw_iadd X dL_cell_16 rfl ?_
    refine aw_imul X dL_cell_17 rfl ?_
    exact aw_iret X hret rfl dL_cell_18 (⟨⟨_, rfl⟩, rfl⟩)
  · have hjl : j < L := by
      rw [hv] at c3
      exact Nat.lt_of_not_le (fun q => c3 (nI_le q (by omega)))
    refine aw_ald0 X dL_cell_6 rfl ?_
    refine aw_ild1 X dL_cell_7 rfl ?_
    refine aw_sld X S j dL_cell_8 rfl hv hjl (by omega) ?_
    refine aw_goto (n := 18) X dL_cell_9 rfl ?_
    exact aw_iret X hret rfl dL_cell_18 (⟨⟨_, rfl⟩, rfl⟩)

set_option maxHeartbeats 4000000 in
set_option maxRecDepth 100000 in
theorem k_L_night {l : Launch} {s0 : State} {a0 : Array Value} {G : GG} (X : CX l s0 a0 G) {h : AH} {tg : Nat} (htg : tg ≠ 0) {b L : Nat} {xs : Nat → Int32} (S : SX s0 b L xs) (hL : L ≤ 260) (ez : h (G.2.2 0) = some (0, oArr 0 (fun _ => none)))  : Con l s0 G yL_night cL_night 8 (some (.object "Kelirnight")) 10 45 468 tg [.ref b] h (fun r h2 => ∃ ke A σ, some (.ref ke) = r ∧ KelW G h2 tg ke A σ ∧ NI σ) := by
  refine Con.of X (by decide +kernel) [some (.ref b), none, none, none, none, none, none, none] rfl (Nat.le_of_ble_eq_true rfl) (fun p e s m below meth c X hnm hret => ?_)
  obtain ⟨bz, hbz⟩ : ∃ z, z = 38 := ⟨38, rfl⟩
  obtain ⟨dz, hdz⟩ : ∃ z, z = 436 := ⟨436, rfl⟩
  obtain ⟨by9, hby⟩ : ∃ z, z = bz + 6 := ⟨_, rfl⟩
  obtain ⟨dy9, hdy⟩ : ∃ z, z = dz + 22 := ⟨_, rfl⟩
  refine AW.mono (bc2 := by9 + 1) (bs2 := dy9 + 10) (by omega) (by omega) ?_
  refine aw_new X nw_L_9 dL_night_0 rfl (fun ke hk1 => ?_)
  refine aw_dup X dL_night_3 rfl rfl ?_
  refine AW.mono (bc2 := bz + 6) (bs2 := dz + 22) (Nat.le_of_eq hby.symm) (Nat.le_of_eq hdy.symm) ?_
  refine aw_callI X dL_night_4 rfl (k_X6_init X.1 htg hu_s ((hu_n (fun q => by rw [q, hk1] at ez; cases ez)).trans ez)) cmX6_init ml_L_11 rfl rfl (Nat.le_of_ble_eq_true rfl) ⟨Nat.le_of_ble_eq_true rfl, Nat.le_of_ble_eq_true rfl⟩ (fun r h2 hq hf => ?_)
  obtain ⟨rfl, A, w1⟩ := hq
  refine aw_ast1 X dL_night_7 rfl (by decide) rfl ?_
  refine aw_iconst X (2) dL_night_8 (by decide) rfl ?_
  refine aw_ald0 X dL_night_9 rfl ?_
  refine aw_iconst X (0) dL_night_10 (by decide) rfl ?_
  refine aw_callS X dL_night_11 rfl (k_L_cell X.1 S hL nI_0.symm (by omega)) cmL_cell ml_L_12 rfl rfl (Nat.le_of_ble_eq_true rfl) ⟨Nat.le_of_ble_eq_true rfl, Nat.le_of_ble_eq_true rfl⟩ (fun r h2 hq hf => ?_)
  obtain ⟨⟨x0, rfl⟩, rfl⟩ := hq
  refine aw_iconst X (5) dL_night_14 (by decide) rfl ?_
  refine aw_callS X dL_night_15 rfl (k_below X.1 _ (N := 5) rfl (by decide) (by decide)) cmL_below ml_L_18 rfl rfl (Nat.le_of_ble_eq_true rfl) ⟨Nat.le_of_ble_eq_true rfl, Nat.le_of_ble_eq_true rfl⟩ (fun r h2 hq hf => ?_)
  obtain ⟨n5, hn5, rfl, rfl⟩ := hq
  obtain ⟨np9, hnp, enp⟩ : ∃ a, (2 ≤ a ∧ a ≤ 6) ∧ 2 + nI n5 = nI a := ⟨2 + n5, by omega, nI_add 2 n5⟩
  refine aw_iadd X dL_night_18 rfl ?_
  rw [enp]
  refine aw_ist2 X dL_night_19 rfl (by decide) rfl ?_
  refine aw_iconst X (0) dL_night_20 (by decide) rfl ?_
  refine aw_ist3 X dL_night_21 rfl (by decide) rfl ?_
  refine aw_dn (n := np9) (A := fun j k => ∀ (y4 : Option Value), ∀ (y5 : Option Value), ∀ (y6 : Option Value), ∀ (y7 : Option Value), ∀ (x : Int32), ∀ (h9 : AH), ∀ (A9 : KA), ∀ (σ9 : NS), ∀ (b9 : Nat), ∀ (d9 : Nat), (x = nI k) → (KelW G h9 tg ke A9 σ9) → (N0 σ9 k 0 0) → (2 * j + 26 ≤ b9) → (21 * j + 310 ≤ d9) → AW p l e _ s m _ below meth c _ s0 G 8 tg _ h9 b9 d9 22 [some (.ref b), some (.ref ke), some (.int (nI np9)), some (.int x), y4, y5, y6, y7] []) ?_ ?_ np9 0 rfl none none none none 0 _ _ _ bz dz nI_0.symm w1 n0_0 (by omega) (by omega)
  · intro y4 y5 y6 y7 x h9 A9 σ9 b9 d9 hx hw9 hN hb hd
    refine aw_ild3 X dL_night_22 rfl ?_
    refine aw_ild2 X dL_night_23 rfl ?_
    refine aw_icmp_ge (n2 := 115) X dL_night_24 rfl rfl (fun c24 => ?_) (fun c24 => absurd (ge_t hx (Nat.le_refl _) (by omega)) c24)
    refine aw_iconst X (0) dL_night_115 (by decide) rfl ?_
    refine aw_ist3 X dL_night_116 rfl (by decide) rfl ?_
    refine aw_dn (n := 5) (A := fun j k => ∀ (y4 : Option Value), ∀ (y5 : Option Value), ∀ (y6 : Option Value), ∀ (y7 : Option Value), ∀ (x : Int32), ∀ (h9 : AH), ∀ (A9 : KA), ∀ (σ9 : NS), ∀ (b9 : Nat), ∀ (d9 : Nat), (x = nI k) → (KelW G h9 tg ke A9 σ9) → (N0 σ9 np9 k 0) → (2 * j + 16 ≤ b9) → (22 * j + 200 ≤ d9) → AW p l e _ s m _ below meth c _ s0 G 8 tg _ h9 b9 d9 117 [some (.ref b), some (.ref ke), some (.int (nI np9)), some (.int x), y4, y5, y6, y7] []) ?_ ?_ 5 0 rfl _ _ _ _ 0 _ _ _ _ _ nI_0.symm hw9 hN (by omega) (by omega)
    · intro y4 y5 y6 y7 x h9 A9 σ9 b9 d9 hx hw9 hN hb hd
      refine aw_ild3 X dL_night_117 rfl ?_
      refine aw_iconst X (5) dL_night_118 (by decide) rfl ?_
      refine aw_icmp_ge (n2 := 165) X dL_night_119 rfl rfl (fun c119 => ?_) (fun c119 => absurd (by rw [hx]; decide) c119)
      refine aw_ald0 X dL_night_165 rfl ?_
      refine aw_bipush X (10) dL_night_166 (by decide) rfl ?_
      refine aw_callS X dL_night_168 rfl (k_L_cell X.1 S hL (show (10 : Int32) = nI 10 from rfl) (by omega)) cmL_cell ml_L_12 rfl rfl (Nat.le_of_ble_eq_true rfl) ⟨Nat.le_of_ble_eq_true rfl, Nat.le_of_ble_eq_true rfl⟩ (fun r h2 hq hf => ?_)
      obtain ⟨⟨x10, rfl⟩, rfl⟩ := hq
      refine aw_bipush X (9) dL_night_171 (by decide) rfl ?_
      refine aw_callS X dL_night_173 rfl (k_below X.1 _ (N := 9) rfl (by decide) (by decide)) cmL_below ml_L_18 rfl rfl (Nat.le_of_ble_eq_true rfl) ⟨Nat.le_of_ble_eq_true rfl, Nat.le_of_ble_eq_true rfl⟩ (fun r h2 hq hf => ?_)
      obtain ⟨ns9, hns9, rfl, rfl⟩ := hq
      refine aw_ist3 X dL_night_176 rfl (by decide) rfl ?_
      refine aw_iconst X (0) dL_night_177 (by decide) rfl ?_
      refine aw_ist4 X dL_night_178 rfl (by decide) rfl ?_
      refine aw_dn (n := ns9) (A := fun j k => ∀ (y5 : Option Value), ∀ (y6 : Option Value), ∀ (y7 : Option Value), ∀ (x : Int32), ∀ (h9 : AH), ∀ (A9 : KA), ∀ (σ9 : NS), ∀ (b9 : Nat), ∀ (d9 : Nat), (x = nI k) → (KelW G h9 tg ke A9 σ9) → (N0 σ9 np9 5 k) → (2 * j + 0 ≤ b9) → (25 * j + 0 ≤ d9) → AW p l e _ s m _ below meth c _ s0 G 8 tg _ h9 b9 d9 180 [some (.ref b), some (.ref ke), some (.int (nI np9)), some (.int (nI ns9)), some (.int x), y5, y6, y7] []) ?_ ?_ ns9 0 rfl _ _ _ 0 _ _ _ _ _ nI_0.symm hw9 hN (by omega) (by omega)
      · intro y5 y6 y7 x h9 A9 σ9 b9 d9 hx hw9 hN hb hd
        refine aw_ild4 X dL_night_180 rfl ?_
        refine aw_ild3 X dL_night_182 rfl ?_
        refine aw_icmp_ge (n2 := 314) X dL_night_183 rfl rfl (fun c183 => ?_) (fun c183 => absurd (ge_t hx (Nat.le_refl _) (by omega)) c183)
        refine aw_ald1 X dL_night_314 rfl ?_
        exact aw_aret X hret (Or.inl ⟨_, rfl⟩) dL_night_315 (⟨ke, A9, σ9, rfl, hw9, n0_ni hN (by omega)⟩)
      · intro j k hjk ih y5 y6 y7 x h9 A9 σ9 b9 d9 hx hw9 hN hb hd
        have h2n : 2 ^ np9 ≤ 2 ^ 6 := Nat.pow_le_pow_right (by decide) (by omega)
        refine aw_ild4 X dL_night_180 rfl ?_
        refine aw_ild3 X dL_night_182 rfl ?_
        refine aw_icmp_ge (n2 := 314) X dL_night_183 rfl rfl (fun c183 => absurd c183 (ge_f hx (by omega) (by omega))) (fun c183 => ?_)
        refine aw_ald0 X dL_night_186 rfl ?_
        refine aw_bipush X (11) dL_night_187 (by decide) rfl ?_
        refine aw_ild4 X dL_night_189 rfl ?_
        refine aw_iadd X dL_night_191 rfl ?_
        refine aw_callS X dL_night_192 rfl (k_L_cell X.1 S hL (by rw [hx]; exact nI_add 11 k) (by omega)) cmL_cell ml_L_12 rfl rfl (Nat.le_of_ble_eq_true rfl) ⟨Nat.le_of_ble_eq_true rfl, Nat.le_of_ble_eq_true rfl⟩ (fun r h2 hq hf => ?_)
        obtain ⟨⟨x5, rfl⟩, rfl⟩ := hq
        refine aw_ist5 X dL_night_195 rfl (by decide) rfl ?_
        refine aw_ild5 X dL_night_197 rfl ?_
        refine aw_iconst X (4) dL_night_199 (by decide) rfl ?_
        refine aw_ishr X dL_night_200 rfl ?_
        refine aw_ild2 X dL_night_201 rfl ?_
        refine aw_callS X dL_night_202 rfl (k_below X.1 _ (N := np9) rfl (by omega) (by omega)) cmL_below ml_L_18 rfl rfl (Nat.le_of_ble_eq_true rfl) ⟨Nat.le_of_ble_eq_true rfl, Nat.le_of_ble_eq_true rfl⟩ (fun r h2 hq hf => ?_)
        obtain ⟨wh, hwh, rfl, rfl⟩ := hq
        refine aw_ist6 X dL_night_205 rfl (by decide) rfl ?_
        refine aw_iconst X (1) dL_night_207 (by decide) rfl ?_
        refine aw_ild6 X dL_night_208 rfl ?_
        refine aw_ishl X dL_night_210 rfl ?_
        refine aw_ild5 X dL_night_211 rfl ?_
        refine aw_iconst X (3) dL_night_213 (by decide) rfl ?_
        refine aw_ishr X dL_night_214 rfl ?_
        refine aw_iconst X (1) dL_night_215 (by decide) rfl ?_
        refine aw_ild2 X dL_night_216 rfl ?_
        refine aw_ishl X dL_night_217 rfl ?_
        refine aw_callS X dL_night_218 rfl (k_below X.1 _ (N := 2 ^ np9) (pw2 np9 (by omega)) (Nat.two_pow_pos _) (by omega)) cmL_below ml_L_18 rfl rfl (Nat.le_of_ble_eq_true rfl) ⟨Nat.le_of_ble_eq_true rfl, Nat.le_of_ble_eq_true rfl⟩ (fun r h2 hq hf => ?_)
        obtain ⟨e1, he1, rfl, rfl⟩ := hq
        refine aw_ild5 X dL_night_221 rfl ?_
        refine aw_bipush X (6) dL_night_223 (by decide) rfl ?_
        refine aw_ishr X dL_night_225 rfl ?_
        refine aw_iconst X (1) dL_night_226 (by decide) rfl ?_
        refine aw_ild2 X dL_night_227 rfl ?_
        refine aw_ishl X dL_night_228 rfl ?_
        refine aw_callS X dL_night_229 rfl (k_below X.1 _ (N := 2 ^ np9) (pw2 np9 (by omega)) (Nat.two_pow_pos _) (by omega)) cmL_below ml_L_18 rfl rfl (Nat.le_of_ble_eq_true rfl) ⟨Nat.le_of_ble_eq_true rfl, Nat.le_of_ble_eq_true rfl⟩ (fun r h2 hq hf => ?_)
        obtain ⟨e2, he2, rfl, rfl⟩ := hq
        refine aw_iand X dL_night_232 rfl ?_
        refine aw_ior X dL_night_233 rfl ?_
        refine aw_ist7 X dL_night_234 rfl (by decide) rfl ?_
        refine aw_ald1 X dL_night_236 rfl ?_
        refine aw_bipush X (20) dL_night_237 (by decide) rfl ?_
        refine aw_ild5 X dL_night_239 rfl ?_
        refine aw_iconst X (2) dL_night_241 (by decide) rfl ?_
        refine aw_ishr X dL_night_242 rfl ?_
        refine aw_bipush X (40) dL_night_243 (by decide) rfl ?_
        refine aw_callS X dL_night_245 rfl (k_below X.1 _ (N := 40) rfl (by decide) (by decide)) cmL_below ml_L_18 rfl rfl (Nat.le_of_ble_eq_true rfl) ⟨Nat.le_of_ble_eq_true rfl, Nat.le_of_ble_eq_true rfl⟩ (fun r h2 hq hf => ?_)
        obtain ⟨yr, hyr, rfl, rfl⟩ := hq
        refine aw_iadd X dL_night_248 rfl ?_
        refine aw_ild5 X dL_night_249 rfl ?_
        refine aw_iconst X (4) dL_night_251 (by decide) rfl ?_
        refine aw_callS X dL_night_252 rfl (k_below X.1 _ (N := 4) rfl (by decide) (by decide)) cmL_below ml_L_18 rfl rfl (Nat.le_of_ble_eq_true rfl) ⟨Nat.le_of_ble_eq_true rfl, Nat.le_of_ble_eq_true rfl⟩ (fun r h2 hq hf => ?_)
        obtain ⟨mo, hmo, rfl, rfl⟩ := hq
        refine aw_ild7 X dL_night_255 rfl ?_
        refine aw_iconst X (5) dL_night_257 (by decide) rfl ?_
        refine aw_ild5 X dL_night_258 rfl ?_
        refine aw_iconst X (5) dL_night_260 (by decide) rfl ?_
        refine aw_ishr X dL_night_261 rfl ?_
        refine aw_bipush X (86) dL_night_262 (by decide) rfl ?_
        refine aw_callS X dL_night_264 rfl (k_below X.1 _ (N := 86) rfl (by decide) (by decide)) cmL_below ml_L_18 rfl rfl (Nat.le_of_ble_eq_true rfl) ⟨Nat.le_of_ble_eq_true rfl, Nat.le_of_ble_eq_true rfl⟩ (fun r h2 hq hf => ?_)
        obtain ⟨le, hle, rfl, rfl⟩ := hq
        refine aw_iadd X dL_night_267 rfl ?_
        refine aw_ild5 X dL_night_268 rfl ?_
        refine aw_bipush X (7) dL_night_270 (by decide) rfl ?_
        refine aw_ishr X dL_night_272 rfl ?_
        refine aw_iconst X (5) dL_night_273 (by decide) rfl ?_
        refine aw_callS X dL_night_274 rfl (k_below X.1 _ (N := 5) rfl (by decide) (by decide)) cmL_below ml_L_18 rfl rfl (Nat.le_of_ble_eq_true rfl) ⟨Nat.le_of_ble_eq_true rfl, Nat.le_of_ble_eq_true rfl⟩ (fun r h2 hq hf => ?_)
        obtain ⟨q5, hq5, rfl, rfl⟩ := hq
        refine aw_if_ne (n2 := 285) X dL_night_277 rfl rfl (fun c277 => ?_) (fun c277 => ?_)
        · refine aw_iconst X (-1) dL_night_285 (by decide) rfl ?_
          refine aw_ild5 X dL_night_286 rfl ?_
          refine aw_bipush X (6) dL_night_288 (by decide) rfl ?_
          refine aw_ishr X dL_night_290 rfl ?_
          refine aw_iconst X (3) dL_night_291 (by decide) rfl ?_
          refine aw_callS X dL_night_292 rfl (k_below X.1 _ (N := 3) rfl (by decide) (by decide)) cmL_below ml_L_18 rfl rfl (Nat.le_of_ble_eq_true rfl) ⟨Nat.le_of_ble_eq_true rfl, Nat.le_of_ble_eq_true rfl⟩ (fun r h2 hq hf => ?_)
          obtain ⟨q6, hq6, rfl, rfl⟩ := hq
          refine aw_if_ne (n2 := 303) X dL_night_295 rfl rfl (fun c295 => ?_) (fun c295 => ?_)
          · refine aw_iconst X (-1) dL_night_303 (by decide) rfl ?_
            obtain ⟨b2, hb2⟩ : ∃ b2, b9 = b2 + 2 := ⟨b9 - 2, by omega⟩
            obtain ⟨d2, hd2⟩ : ∃ d2, d9 = d2 + 25 := ⟨d9 - 25, by omega⟩
            refine AW.mono (bc2 := b2 + 2) (bs2 := d2 + 25) (Nat.le_of_eq hb2.symm) (Nat.le_of_eq hd2.symm) ?_
            refine aw_callVX X dL_night_304 rfl (k_X6_scene X.1 htg hw9 (20 + nI yr) (nI mo) ((1 : Int32) <<< (nI wh &&& 31) ||| nI e1 &&& nI e2) (5 + nI le) (-1) (-1)) cmX6_scene ml_L_29 rfl hw9.1 rfl rfl (Nat.le_of_ble_eq_true rfl) ⟨Nat.le_of_ble_eq_true rfl, Nat.le_of_ble_eq_true rfl⟩ (fun r h2 hq hf => ?_) (fun E h2 hq hf => absurd ((n0_scene hN (by omega) (by omega) (e2 := e2) hyr hmo hwh he1 hle (Or.inl rfl) (Or.inl rfl)).1) hq.2.1)
            obtain ⟨-, rfl, A2, w2⟩ := hq
            refine aw_pop X dL_night_307 rfl rfl ?_
            refine aw_iinc4 X (1) dL_night_308 (by decide) rfl (by decide) rfl ?_
            refine aw_goto (n := 180) X dL_night_311 rfl ?_
            exact ih _ _ _ (x + 1) h2 A2 _ b2 d2 (nx hx) w2 (n0_scene hN (by omega) (by omega) (e2 := e2) hyr hmo hwh he1 hle (Or.inl rfl) (Or.inl rfl)).2 (by omega) (by omega)
          · refine aw_ild6 X dL_night_298 rfl ?_
            refine aw_goto (n := 304) X dL_night_300 rfl ?_
            obtain ⟨b2, hb2⟩ : ∃ b2, b9 = b2 + 2 := ⟨b9 - 2, by omega⟩
            obtain ⟨d2, hd2⟩ : ∃ d2, d9 = d2 + 25 := ⟨d9 - 25, by omega⟩
            refine AW.mono (bc2 := b2 + 2) (bs2 := d2 + 25) (Nat.le_of_eq hb2.symm) (Nat.le_of_eq hd2.symm) ?_
            refine aw_callVX X dL_night_304 rfl (k_X6_scene X.1 htg hw9 (20 + nI yr) (nI mo) ((1 : Int32) <<< (nI wh &&& 31) ||| nI e1 &&& nI e2) (5 + nI le) (-1) (nI wh)) cmX6_scene ml_L_29 rfl hw9.1 rfl rfl (Nat.le_of_ble_eq_true rfl) ⟨Nat.le_of_ble_eq_true rfl, Nat.le_of_ble_eq_true rfl⟩ (fun r h2 hq hf => ?_) (fun E h2 hq hf => absurd ((n0_scene hN (by omega) (by omega) (e2 := e2) hyr hmo hwh he1 hle (Or.inl rfl) (Or.inr rfl)).1) hq.2.1)
            obtain ⟨-, rfl, A2, w2⟩ := hq
            refine aw_pop X dL_night_307 rfl rfl ?_
            refine aw_iinc4 X (1) dL_night_308 (by decide) rfl (by decide) rfl ?_
            refine aw_goto (n := 180) X dL_night_311 rfl ?_
            exact ih _ _ _ (x + 1) h2 A2 _ b2 d2 (nx hx) w2 (n0_scene hN (by omega) (by omega) (e2 := e2) hyr hmo hwh he1 hle (Or.inl rfl) (Or.inr rfl)).2 (by omega) (by omega)
        · refine aw_ild6 X dL_night_280 rfl ?_
          refine aw_goto (n := 286) X dL_night_282 rfl ?_
          refine aw_ild5 X dL_night_286 rfl ?_
          refine aw_bipush X (6) dL_night_288 (by decide) rfl ?_
          refine aw_ishr X dL_night_290 rfl ?_
          refine aw_iconst X (3) dL_night_291 (by decide) rfl ?_
          refine aw_callS X dL_night_292 rfl (k_below X.1 _ (N := 3) rfl (by decide) (by decide)) cmL_below ml_L_18 rfl rfl (Nat.le_of_ble_eq_true rfl) ⟨Nat.le_of_ble_eq_true rfl, Nat.le_of_ble_eq_true rfl⟩ (fun r h2 hq hf => ?_)
          obtain ⟨q6, hq6, rfl, rfl⟩ := hq
          refine aw_if_ne (n2 := 303) X dL_night_295 rfl rfl (fun c295 => ?_) (fun c295 => ?_)
          · refine aw_iconst X (-1) dL_night_303 (by decide) rfl ?_
            obtain ⟨b2, hb2⟩ : ∃ b2, b9 = b2 + 2 := ⟨b9 - 2, by omega⟩
            obtain ⟨d2, hd2⟩ : ∃ d2, d9 = d2 + 25 := ⟨d9 - 25, by omega⟩
            refine AW.mono (bc2 := b2 + 2) (bs2 := d2 + 25) (Nat.le_of_eq hb2.symm) (Nat.le_of_eq hd2.symm) ?_
            refine aw_callVX X dL_night_304 rfl (k_X6_scene X.1 htg hw9 (20 + nI yr) (nI mo) ((1 : Int32) <<< (nI wh &&& 31) ||| nI e1 &&& nI e2) (5 + nI le) (nI wh) (-1)) cmX6_scene ml_L_29 rfl hw9.1 rfl rfl (Nat.le_of_ble_eq_true rfl) ⟨Nat.le_of_ble_eq_true rfl, Nat.le_of_ble_eq_true rfl⟩ (fun r h2 hq hf => ?_) (fun E h2 hq hf => absurd ((n0_scene hN (by omega) (by omega) (e2 := e2) hyr hmo hwh he1 hle (Or.inr rfl) (Or.inl rfl)).1) hq.2.1)
            obtain ⟨-, rfl, A2, w2⟩ := hq
            refine aw_pop X dL_night_307 rfl rfl ?_
            refine aw_iinc4 X (1) dL_night_308 (by decide) rfl (by decide) rfl ?_
            refine aw_goto (n := 180) X dL_night_311 rfl ?_
            exact ih _ _ _ (x + 1) h2 A2 _ b2 d2 (nx hx) w2 (n0_scene hN (by omega) (by omega) (e2 := e2) hyr hmo hwh he1 hle (Or.inr rfl) (Or.inl rfl)).2 (by omega) (by omega)
          · refine aw_ild6 X dL_night_298 rfl ?_
            refine aw_goto (n := 304) X dL_night_300 rfl ?_
            obtain ⟨b2, hb2⟩ : ∃ b2, b9 = b2 + 2 := ⟨b9 - 2, by omega⟩
            obtain ⟨d2, hd2⟩ : ∃ d2, d9 = d2 + 25 := ⟨d9 - 25, by omega⟩
            refine AW.mono (bc2 := b2 + 2) (bs2 := d2 + 25) (Nat.le_of_eq hb2.symm) (Nat.le_of_eq hd2.symm) ?_
            refine aw_callVX X dL_night_304 rfl (k_X6_scene X.1 htg hw9 (20 + nI yr) (nI mo) ((1 : Int32) <<< (nI wh &&& 31) ||| nI e1 &&& nI e2) (5 + nI le) (nI wh) (nI wh)) cmX6_scene ml_L_29 rfl hw9.1 rfl rfl (Nat.le_of_ble_eq_true rfl) ⟨Nat.le_of_ble_eq_true rfl, Nat.le_of_ble_eq_true rfl⟩ (fun r h2 hq hf => ?_) (fun E h2 hq hf => absurd ((n0_scene hN (by omega) (by omega) (e2 := e2) hyr hmo hwh he1 hle (Or.inr rfl) (Or.inr rfl)).1) hq.2.1)
            obtain ⟨-, rfl, A2, w2⟩ := hq
            refine aw_pop X dL_night_307 rfl rfl ?_
            refine aw_iinc4 X (1) dL_night_308 (by decide) rfl (by decide) rfl ?_
            refine aw_goto (n := 180) X dL_night_311 rfl ?_
            exact ih _ _ _ (x + 1) h2 A2 _ b2 d2 (nx hx) w2 (n0_scene hN (by omega) (by omega) (e2 := e2) hyr hmo hwh he1 hle (Or.inr rfl) (Or.inr rfl)).2 (by omega) (by omega)
    · intro j k hjk ih y4 y5 y6 y7 x h9 A9 σ9 b9 d9 hx hw9 hN hb hd
      refine aw_ild3 X dL_night_117 rfl ?_
      refine aw_iconst X (5) dL_night_118 (by decide) rfl ?_
      refine aw_icmp_ge (n2 := 165) X dL_night_119 rfl rfl (fun c119 => absurd c119 (by rw [hx]; exact (show ¬ nI 5 ≤ nI k from nI_ge (by omega) (by decide)))) (fun c119 => ?_)
      refine aw_ald1 X dL_night_122 rfl ?_
      refine aw_ald0 X dL_night_123 rfl ?_
      refine aw_bipush X (8) dL_night_124 (by decide) rfl ?_
      refine aw_callS X dL_night_126 rfl (k_L_cell X.1 S hL (show (8 : Int32) = nI 8 from rfl) (by omega)) cmL_cell ml_L_12 rfl rfl (Nat.le_of_ble_eq_true rfl) ⟨Nat.le_of_ble_eq_true rfl, Nat.le_of_ble_eq_true rfl⟩ (fun r h2 hq hf => ?_)
      obtain ⟨⟨x8, rfl⟩, rfl⟩ := hq
      refine aw_ild3 X dL_night_129 rfl ?_
      refine aw_iconst X (3) dL_night_130 (by decide) rfl ?_
      refine aw_imul X dL_night_131 rfl ?_
      refine aw_ishr X dL_night_132 rfl ?_
      refine aw_ild2 X dL_night_133 rfl ?_
      refine aw_callS X dL_night_134 rfl (k_below X.1 _ (N := np9) rfl (by omega) (by omega)) cmL_below ml_L_18 rfl rfl (Nat.le_of_ble_eq_true rfl) ⟨Nat.le_of_ble_eq_true rfl, Nat.le_of_ble_eq_true rfl⟩ (fun r h2 hq hf => ?_)
      obtain ⟨fp, hfp, rfl, rfl⟩ := hq
      refine aw_bipush X (10) dL_night_137 (by decide) rfl ?_
      refine aw_ald0 X dL_night_139 rfl ?_
      refine aw_bipush X (9) dL_night_140 (by decide) rfl ?_
      refine aw_callS X dL_night_142 rfl (k_L_cell X.1 S hL (show (9 : Int32) = nI 9 from rfl) (by omega)) cmL_cell ml_L_12 rfl rfl (Nat.le_of_ble_eq_true rfl) ⟨Nat.le_of_ble_eq_true rfl, Nat.le_of_ble_eq_true rfl⟩ (fun r h2 hq hf => ?_)
      obtain ⟨⟨x9, rfl⟩, rfl⟩ := hq
      refine aw_ild3 X dL_night_145 rfl ?_
      refine aw_iconst X (2) dL_night_146 (by decide) rfl ?_
      refine aw_imul X dL_night_147 rfl ?_
      refine aw_ishr X dL_night_148 rfl ?_
      refine aw_bipush X (81) dL_night_149 (by decide) rfl ?_
      refine aw_callS X dL_night_151 rfl (k_below X.1 _ (N := 81) rfl (by decide) (by decide)) cmL_below ml_L_18 rfl rfl (Nat.le_of_ble_eq_true rfl) ⟨Nat.le_of_ble_eq_true rfl, Nat.le_of_ble_eq_true rfl⟩ (fun r h2 hq hf => ?_)
      obtain ⟨fh, hfh, rfl, rfl⟩ := hq
      refine aw_iadd X dL_night_154 rfl ?_
      obtain ⟨b2, hb2⟩ : ∃ b2, b9 = b2 + 2 := ⟨b9 - 2, by omega⟩
      obtain ⟨d2, hd2⟩ : ∃ d2, d9 = d2 + 22 := ⟨d9 - 22, by omega⟩
      refine AW.mono (bc2 := b2 + 2) (bs2 := d2 + 22) (Nat.le_of_eq hb2.symm) (Nat.le_of_eq hd2.symm) ?_
      refine aw_callVX X dL_night_155 rfl (k_X6_figure X.1 htg hw9 (nI fp) (10 + nI fh)) cmX6_figure ml_L_26 rfl hw9.1 rfl rfl (Nat.le_of_ble_eq_true rfl) ⟨Nat.le_of_ble_eq_true rfl, Nat.le_of_ble_eq_true rfl⟩ (fun r h2 hq hf => ?_) (fun E h2 hq hf => absurd ((n0_figure hN (by omega) hfp hfh).1) hq.2.1)
      obtain ⟨-, rfl, A2, w2⟩ := hq
      refine aw_pop X dL_night_158 rfl rfl ?_
      refine aw_iinc3 X (1) dL_night_159 (by decide) rfl (by decide) rfl ?_
      refine aw_goto (n := 117) X dL_night_162 rfl ?_
      exact ih _ _ _ _ (x + 1) h2 A2 _ b2 d2 (nx hx) w2 (n0_figure hN (by omega) hfp hfh).2 (by omega) (by omega)
  · intro j k hjk ih y4 y5 y6 y7 x h9 A9 σ9 b9 d9 hx hw9 hN hb hd
    refine aw_ild3 X dL_night_22 rfl ?_
    refine aw_ild2 X dL_night_23 rfl ?_
    refine aw_icmp_ge (n2 := 115) X dL_night_24 rfl rfl (fun c24 => absurd c24 (by exact ge_f hx (by omega) (by omega))) (fun c24 => ?_)
    refine aw_ald0 X dL_night_27 rfl ?_
    refine aw_iconst X (1) dL_night_28 (by decide) rfl ?_
    refine aw_ild3 X dL_night_29 rfl ?_
    refine aw_iadd X dL_night_30 rfl ?_
    refine aw_callS X dL_night_31 rfl (k_L_cell X.1 S hL (by rw [hx]; exact nI_add 1 k) (by omega)) cmL_cell ml_L_12 rfl rfl (Nat.le_of_ble_eq_true rfl) ⟨Nat.le_of_ble_eq_true rfl, Nat.le_of_ble_eq_true rfl⟩ (fun r h2 hq hf => ?_)
    obtain ⟨⟨x4, rfl⟩, rfl⟩ := hq
    refine aw_ist4 X dL_night_34 rfl (by decide) rfl ?_
    refine aw_ild4 X dL_night_36 rfl ?_
    refine aw_iconst X (3) dL_night_38 (by decide) rfl ?_
    refine aw_ishr X dL_night_39 rfl ?_
    refine aw_bipush X (40) dL_night_40 (by decide) rfl ?_
    refine aw_callS X dL_night_42 rfl (k_below X.1 _ (N := 40) rfl (by decide) (by decide)) cmL_below ml_L_18 rfl rfl (Nat.le_of_ble_eq_true rfl) ⟨Nat.le_of_ble_eq_true rfl, Nat.le_of_ble_eq_true rfl⟩ (fun r h2 hq hf => ?_)
    obtain ⟨a0, ha0, rfl, rfl⟩ := hq
    refine aw_ist5 X dL_night_45 rfl (by decide) rfl ?_
    refine aw_ald1 X dL_night_47 rfl ?_
    refine aw_ild4 X dL_night_48 rfl ?_
    refine aw_iconst X (2) dL_night_50 (by decide) rfl ?_
    refine aw_callS X dL_night_51 rfl (k_below X.1 _ (N := 2) rfl (by decide) (by decide)) cmL_below ml_L_18 rfl rfl (Nat.le_of_ble_eq_true rfl) ⟨Nat.le_of_ble_eq_true rfl, Nat.le_of_ble_eq_true rfl⟩ (fun r h2 hq hf => ?_)
    obtain ⟨a1, ha1, rfl, rfl⟩ := hq
    refine aw_ild4 X dL_night_54 rfl ?_
    refine aw_iconst X (4) dL_night_56 (by decide) rfl ?_
    refine aw_ishr X dL_night_57 rfl ?_
    refine aw_iconst X (4) dL_night_58 (by decide) rfl ?_
    refine aw_callS X dL_night_59 rfl (k_below X.1 _ (N := 4) rfl (by decide) (by decide)) cmL_below ml_L_18 rfl rfl (Nat.le_of_ble_eq_true rfl) ⟨Nat.le_of_ble_eq_true rfl, Nat.le_of_ble_eq_true rfl⟩ (fun r h2 hq hf => ?_)
    obtain ⟨a2, ha2, rfl, rfl⟩ := hq
    refine aw_ild4 X dL_night_62 rfl ?_
    refine aw_iconst X (5) dL_night_64 (by decide) rfl ?_
    refine aw_ishr X dL_night_65 rfl ?_
    refine aw_bipush X (10) dL_night_66 (by decide) rfl ?_
    refine aw_callS X dL_night_68 rfl (k_below X.1 _ (N := 10) rfl (by decide) (by decide)) cmL_below ml_L_18 rfl rfl (Nat.le_of_ble_eq_true rfl) ⟨Nat.le_of_ble_eq_true rfl, Nat.le_of_ble_eq_true rfl⟩ (fun r h2 hq hf => ?_)
    obtain ⟨a3, ha3, rfl, rfl⟩ := hq
    refine aw_ild5 X dL_night_71 rfl ?_
    refine aw_ild5 X dL_night_73 rfl ?_
    refine aw_iconst X (1) dL_night_75 (by decide) rfl ?_
    refine aw_iadd X dL_night_76 rfl ?_
    refine aw_ild4 X dL_night_77 rfl ?_
    refine aw_bipush X (6) dL_night_79 (by decide) rfl ?_
    refine aw_ishr X dL_night_81 rfl ?_
    refine aw_bipush X (60) dL_night_82 (by decide) rfl ?_
    refine aw_callS X dL_night_84 rfl (k_below X.1 _ (N := 60) rfl (by decide) (by decide)) cmL_below ml_L_18 rfl rfl (Nat.le_of_ble_eq_true rfl) ⟨Nat.le_of_ble_eq_true rfl, Nat.le_of_ble_eq_true rfl⟩ (fun r h2 hq hf => ?_)
    obtain ⟨a4, ha4, rfl, rfl⟩ := hq
    refine aw_iadd X dL_night_87 rfl ?_
    refine aw_ild4 X dL_night_88 rfl ?_
    refine aw_bipush X (7) dL_night_90 (by decide) rfl ?_
    refine aw_ishr X dL_night_92 rfl ?_
    refine aw_iconst X (2) dL_night_93 (by decide) rfl ?_
    refine aw_callS X dL_night_94 rfl (k_below X.1 _ (N := 2) rfl (by decide) (by decide)) cmL_below ml_L_18 rfl rfl (Nat.le_of_ble_eq_true rfl) ⟨Nat.le_of_ble_eq_true rfl, Nat.le_of_ble_eq_true rfl⟩ (fun r h2 hq hf => ?_)
    obtain ⟨a5, ha5, rfl, rfl⟩ := hq
    refine aw_if_ne (n2 := 104) X dL_night_97 rfl rfl (fun c97 => ?_) (fun c97 => ?_)
    · refine aw_iconst X (0) dL_night_104 (by decide) rfl ?_
      obtain ⟨b2, hb2⟩ : ∃ b2, b9 = b2 + 2 := ⟨b9 - 2, by omega⟩
      obtain ⟨d2, hd2⟩ : ∃ d2, d9 = d2 + 21 := ⟨d9 - 21, by omega⟩
      refine AW.mono (bc2 := b2 + 2) (bs2 := d2 + 21) (Nat.le_of_eq hb2.symm) (Nat.le_of_eq hd2.symm) ?_
      refine aw_callVX X dL_night_105 rfl (k_X6_person X.1 htg hw9 hN.1 (nI a1) (nI a2) (nI a3) (nI a0) (nI a0 + 1 + nI a4) 0 rfl) cmX6_person ml_L_22 rfl hw9.1 rfl rfl (Nat.le_of_ble_eq_true rfl) ⟨Nat.le_of_ble_eq_true rfl, Nat.le_of_ble_eq_true rfl⟩ (fun r h2 hq hf => ?_) (fun E h2 hq hf => absurd ((n0_person hN (by omega) ha1 ha2 ha3 ha0 ha4 (Or.inl rfl)).1) hq.2.1)
      obtain ⟨-, rfl, A2, w2⟩ := hq
      refine aw_pop X dL_night_108 rfl rfl ?_
      refine aw_iinc3 X (1) dL_night_109 (by decide) rfl (by decide) rfl ?_
      refine aw_goto (n := 22) X dL_night_112 rfl ?_
      exact ih _ _ _ _ (x + 1) h2 A2 _ b2 d2 (nx hx) w2 (n0_person hN (by omega) ha1 ha2 ha3 ha0 ha4 (Or.inl rfl)).2 (by omega) (by omega)
    · refine aw_iconst X (1) dL_night_100 (by decide) rfl ?_
      refine aw_goto (n := 105) X dL_night_101 rfl ?_
      obtain ⟨b2, hb2⟩ : ∃ b2, b9 = b2 + 2 := ⟨b9 - 2, by omega⟩
      obtain ⟨d2, hd2⟩ : ∃ d2, d9 = d2 + 21 := ⟨d9 - 21, by omega⟩
      refine AW.mono (bc2 := b2 + 2) (bs2 := d2 + 21) (Nat.le_of_eq hb2.symm) (Nat.le_of_eq hd2.symm) ?_
      refine aw_callVX X dL_night_105 rfl (k_X6_person X.1 htg hw9 hN.1 (nI a1) (nI a2) (nI a3) (nI a0) (nI a0 + 1 + nI a4) 1 rfl) cmX6_person ml_L_22 rfl hw9.1 rfl rfl (Nat.le_of_ble_eq_true rfl) ⟨Nat.le_of_ble_eq_true rfl, Nat.le_of_ble_eq_true rfl⟩ (fun r h2 hq hf => ?_) (fun E h2 hq hf => absurd ((n0_person hN (by omega) ha1 ha2 ha3 ha0 ha4 (Or.inr rfl)).1) hq.2.1)
      obtain ⟨-, rfl, A2, w2⟩ := hq
      refine aw_pop X dL_night_108 rfl rfl ?_
      refine aw_iinc3 X (1) dL_night_109 (by decide) rfl (by decide) rfl ?_
      refine aw_goto (n := 22) X dL_night_112 rfl ?_
      exact ih _ _ _ _ (x + 1) h2 A2 _ b2 d2 (nx hx) w2 (n0_person hN (by omega) ha1 ha2 ha3 ha0 ha4 (Or.inr rfl)).2 (by omega) (by omega)
