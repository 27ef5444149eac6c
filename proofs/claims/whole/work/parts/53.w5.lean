/-! THE LAW'S LOOP AND ITS START -/
set_option maxHeartbeats 4000000 in
set_option maxRecDepth 100000 in
theorem law_step {p : Program} {l : Launch} {e : Env} {s : State} {m : MethodId} {below : List Frame} {meth : Method} {c : Code} {Q : State → Prop} {a0 : Array Value} {G : GG} {h0 h : AH} {b L : Nat} {xs : Nat → Int32} {ke mo out J bc bs Cr Dr : Nat} {σ : NS} {y5 y6 y7 y8 : Option Value} (X : MX p l s m meth c s a0 G cL_law "KelirnightLaw" 9) (hN : NX s) (SX : va_X b L xs s s.heap ∧ b < s.heap.size) (hz0 : ∀ b t x, h0 b = some (t, x) → t = 0) (hL : L ≤ 3584) (hJ : J + 7 ≤ L) (I : LawI G ke mo out h σ) (hb : Cr + 1195 + 25 * (540 - iN σ.mi) ≤ bc) (hd : Dr + 4582 + 100 * (540 - iN σ.mi) ≤ bs) (k : ∀ (h2 : AH) (σ2 : NS) (b2 d2 : Nat) (z5 z6 z7 z8 : Option Value), LawI G ke mo out h2 σ2 → Cr + 25 * (540 - iN σ2.mi) ≤ b2 → Dr + 100 * (540 - iN σ2.mi) ≤ d2 → AW p l e room_1 s m #[.ref b] below meth c Q s G 9 1 h0 h2 b2 d2 1908 [some (.ref b), some (.ref ke), some (.ref mo), some (.ref out), some (.int (nI J)), z5, z6, z7, z8] []) : AW p l e room_1 s m #[.ref b] below meth c Q s G 9 1 h0 h bc bs 33 [some (.ref b), some (.ref ke), some (.ref mo), some (.ref out), some (.int (nI J)), y5, y6, y7, y8] [] := by
  refine aw_ald0 X dL_law_33 rfl ?_
  refine aw_ild4 X dL_law_34 rfl ?_
  refine aw_sld X SX J dL_law_36 rfl rfl (by omega) hL ?_
  refine aw_bipush X (31) dL_law_37 (by decide) rfl ?_
  refine aw_iand X dL_law_39 rfl ?_
  generalize xs J &&& 31 = v9
  by_cases q0 : v9 = 0
  · refine aw_tswIn (n := 172) X 0 dL_law_40 (by rw [q0]; decide) (by decide) rfl rfl ?_
    exact ca_person X hN SX hz0 hL hJ I hb hd k
  by_cases q1 : v9 = 1
  · refine aw_tswIn (n := 306) X 1 dL_law_40 (by rw [q1]; decide) (by decide) rfl rfl ?_
    exact ca_figure X hN SX hz0 hL hJ I hb hd k
  by_cases q2 : v9 = 2
  · refine aw_tswIn (n := 374) X 2 dL_law_40 (by rw [q2]; decide) (by decide) rfl rfl ?_
    exact ca_scene X hN SX hz0 hL hJ I hb hd k
  by_cases q3 : v9 = 3
  · refine aw_tswIn (n := 492) X 3 dL_law_40 (by rw [q3]; decide) (by decide) rfl rfl ?_
    exact ca_length X hN SX hz0 hL hJ I hb hd k
  by_cases q4 : v9 = 4
  · refine aw_tswIn (n := 560) X 4 dL_law_40 (by rw [q4]; decide) (by decide) rfl rfl ?_
    exact ca_swap X hN SX hz0 hL hJ I hb hd k
  by_cases q5 : v9 = 5
  · refine aw_tswIn (n := 628) X 5 dL_law_40 (by rw [q5]; decide) (by decide) rfl rfl ?_
    exact ca_lamp X hN SX hz0 hL hJ I hb hd k
  by_cases q6 : v9 = 6
  · refine aw_tswIn (n := 696) X 6 dL_law_40 (by rw [q6]; decide) (by decide) rfl rfl ?_
    exact ca_grip X hN SX hz0 hL hJ I hb hd k
  by_cases q7 : v9 = 7
  · refine aw_tswIn (n := 752) X 7 dL_law_40 (by rw [q7]; decide) (by decide) rfl rfl ?_
    exact ca_move X hN SX hz0 hL hJ I hb hd k
  by_cases q8 : v9 = 8
  · refine aw_tswIn (n := 820) X 8 dL_law_40 (by rw [q8]; decide) (by decide) rfl rfl ?_
    exact ca_lift X hN SX hz0 hL hJ I hb hd k
  by_cases q9 : v9 = 9
  · refine aw_tswIn (n := 888) X 9 dL_law_40 (by rw [q9]; decide) (by decide) rfl rfl ?_
    exact ca_plant X hN SX hz0 hL hJ I hb hd k
  by_cases q10 : v9 = 10
  · refine aw_tswIn (n := 944) X 10 dL_law_40 (by rw [q10]; decide) (by decide) rfl rfl ?_
    exact ca_hand X hN SX hz0 hL hJ I hb hd k
  by_cases q11 : v9 = 11
  · refine aw_tswIn (n := 1000) X 11 dL_law_40 (by rw [q11]; decide) (by decide) rfl rfl ?_
    exact ca_away X hN SX hz0 hL hJ I hb hd k
  by_cases q12 : v9 = 12
  · refine aw_tswIn (n := 1056) X 12 dL_law_40 (by rw [q12]; decide) (by decide) rfl rfl ?_
    exact ca_tap X hN SX hz0 hL hJ I hb hd k
  by_cases q13 : v9 = 13
  · refine aw_tswIn (n := 1119) X 13 dL_law_40 (by rw [q13]; decide) (by decide) rfl rfl ?_
    exact ca_speak X hN SX hz0 hL hJ I hb hd k
  by_cases q14 : v9 = 14
  · refine aw_tswIn (n := 1211) X 14 dL_law_40 (by rw [q14]; decide) (by decide) rfl rfl ?_
    exact ca_joke X hN SX hz0 hL hJ I hb hd k
  by_cases q15 : v9 = 15
  · refine aw_tswIn (n := 1267) X 15 dL_law_40 (by rw [q15]; decide) (by decide) rfl rfl ?_
    exact ca_offer X hN SX hz0 hL hJ I hb hd k
  by_cases q16 : v9 = 16
  · refine aw_tswIn (n := 1311) X 16 dL_law_40 (by rw [q16]; decide) (by decide) rfl rfl ?_
    exact ca_pass X hN SX hz0 hL hJ I hb hd k
  by_cases q17 : v9 = 17
  · refine aw_tswIn (n := 1367) X 17 dL_law_40 (by rw [q17]; decide) (by decide) rfl rfl ?_
    exact ca_knows X hN SX hz0 hL hJ I hb hd k
  by_cases q18 : v9 = 18
  · refine aw_tswIn (n := 1442) X 18 dL_law_40 (by rw [q18]; decide) (by decide) rfl rfl ?_
    exact ca_ofFigure X hN SX hz0 hL hJ I hb hd k
  by_cases q19 : v9 = 19
  · refine aw_tswIn (n := 1510) X 19 dL_law_40 (by rw [q19]; decide) (by decide) rfl rfl ?_
    exact ca_ofScene X hN SX hz0 hL hJ I hb hd k
  by_cases q20 : v9 = 20
  · refine aw_tswIn (n := 1578) X 20 dL_law_40 (by rw [q20]; decide) (by decide) rfl rfl ?_
    exact ca_at X hN SX hz0 hL hJ I hb hd k
  by_cases q21 : v9 = 21
  · refine aw_tswIn (n := 1634) X 21 dL_law_40 (by rw [q21]; decide) (by decide) rfl rfl ?_
    exact ca_sound X hN SX hz0 hL hJ I hb hd k
  by_cases q22 : v9 = 22
  · refine aw_tswIn (n := 1690) X 22 dL_law_40 (by rw [q22]; decide) (by decide) rfl rfl ?_
    exact ca_many X hN SX hz0 hL hJ I hb hd k
  by_cases q23 : v9 = 23
  · refine aw_tswIn (n := 1746) X 23 dL_law_40 (by rw [q23]; decide) (by decide) rfl rfl ?_
    exact ca_meanShadow X hN SX hz0 hL hJ I hb hd k
  by_cases q24 : v9 = 24
  · refine aw_tswIn (n := 1787) X 24 dL_law_40 (by rw [q24]; decide) (by decide) rfl rfl ?_
    exact ca_nextGong X hN SX hz0 hL hJ I hb hd k
  by_cases q25 : v9 = 25
  · refine aw_tswIn (n := 1800) X 25 dL_law_40 (by rw [q25]; decide) (by decide) rfl rfl ?_
    exact ca_bestSwap X hN SX hz0 hL hJ I hb hd k
  by_cases q26 : v9 = 26
  · refine aw_tswIn (n := 1813) X 26 dL_law_40 (by rw [q26]; decide) (by decide) rfl rfl ?_
    exact ca_liftFor X hN SX hz0 hL hJ I hb hd k
  by_cases q27 : v9 = 27
  · refine aw_tswIn (n := 1881) X 27 dL_law_40 (by rw [q27]; decide) (by decide) rfl rfl ?_
    exact ca_gripable X hN SX hz0 hL hJ I hb hd k
  by_cases q28 : v9 = 28
  · refine aw_tswIn (n := 1894) X 28 dL_law_40 (by rw [q28]; decide) (by decide) rfl rfl ?_
    exact ca_digest X hN SX hz0 hL hJ I hb hd k
  refine aw_tswOut (n := 1908) X dL_law_40 (tsw_out (fun q h1 h2 e => by
    have hq : q = 0 ∨ q = 1 ∨ q = 2 ∨ q = 3 ∨ q = 4 ∨ q = 5 ∨ q = 6 ∨ q = 7 ∨ q = 8 ∨ q = 9 ∨ q = 10 ∨ q = 11 ∨ q = 12 ∨ q = 13 ∨ q = 14 ∨ q = 15 ∨ q = 16 ∨ q = 17 ∨ q = 18 ∨ q = 19 ∨ q = 20 ∨ q = 21 ∨ q = 22 ∨ q = 23 ∨ q = 24 ∨ q = 25 ∨ q = 26 ∨ q = 27 ∨ q = 28 := by omega
    rcases hq with rfl | rfl | rfl | rfl | rfl | rfl | rfl | rfl | rfl | rfl | rfl | rfl | rfl | rfl | rfl | rfl | rfl | rfl | rfl | rfl | rfl | rfl | rfl | rfl | rfl | rfl | rfl | rfl | rfl
    · exact q0 e
    · exact q1 e
    · exact q2 e
    · exact q3 e
    · exact q4 e
    · exact q5 e
    · exact q6 e
    · exact q7 e
    · exact q8 e
    · exact q9 e
    · exact q10 e
    · exact q11 e
    · exact q12 e
    · exact q13 e
    · exact q14 e
    · exact q15 e
    · exact q16 e
    · exact q17 e
    · exact q18 e
    · exact q19 e
    · exact q20 e
    · exact q21 e
    · exact q22 e
    · exact q23 e
    · exact q24 e
    · exact q25 e
    · exact q26 e
    · exact q27 e
    · exact q28 e)) rfl ?_
  exact k h σ bc bs y5 y6 y7 y8 I (by omega) (by omega)
set_option maxHeartbeats 4000000 in
set_option maxRecDepth 100000 in
theorem law_loop {p : Program} {l : Launch} {e : Env} {s : State} {m : MethodId} {below : List Frame} {meth : Method} {c : Code} {Q : State → Prop} {a0 : Array Value} {G : GG} {h0 : AH} {b L : Nat} {xs : Nat → Int32} {ke mo out : Nat} (X : MX p l s m meth c s a0 G cL_law "KelirnightLaw" 9) (hN : NX s) (SX : va_X b L xs s s.heap ∧ b < s.heap.size) (hz0 : ∀ b t x, h0 b = some (t, x) → t = 0) (hL : L ≤ 3584) (hend : ∀ (h : AH) (bc bs J : Nat) (y5 y6 y7 y8 : Option Value), AW p l e room_1 s m #[.ref b] below meth c Q s G 9 1 h0 h bc bs 1914 [some (.ref b), some (.ref ke), some (.ref mo), some (.ref out), some (.int (nI J)), y5, y6, y7, y8] []) :
    ∀ j k, j + k = L / 7 → ∀ (h : AH) (σ : NS) (bc bs : Nat) (y5 y6 y7 y8 : Option Value), LawI G ke mo out h σ → 1195 * j + 25 * (540 - iN σ.mi) ≤ bc → 4582 * j + 100 * (540 - iN σ.mi) ≤ bs → AW p l e room_1 s m #[.ref b] below meth c Q s G 9 1 h0 h bc bs 23 [some (.ref b), some (.ref ke), some (.ref mo), some (.ref out), some (.int (nI (7 * k))), y5, y6, y7, y8] [] := by
  refine aw_dn (n := L / 7) (A := fun j k => ∀ (h : AH) (σ : NS) (bc bs : Nat) (y5 y6 y7 y8 : Option Value), LawI G ke mo out h σ → 1195 * j + 25 * (540 - iN σ.mi) ≤ bc → 4582 * j + 100 * (540 - iN σ.mi) ≤ bs → AW p l e room_1 s m #[.ref b] below meth c Q s G 9 1 h0 h bc bs 23 [some (.ref b), some (.ref ke), some (.ref mo), some (.ref out), some (.int (nI (7 * k))), y5, y6, y7, y8] []) ?_ ?_
  · intro h σ bc bs y5 y6 y7 y8 I hb hd
    refine aw_ild4 X dL_law_23 rfl ?_
    refine aw_ald0 X dL_law_25 rfl ?_
    refine aw_slen X SX dL_law_26 rfl ?_
    refine aw_bipush X (nI 7) dL_law_27 (by decide) rfl ?_
    refine aw_isub X dL_law_29 rfl ?_
    refine aw_icmp_gt (n2 := 1914) X dL_law_30 rfl rfl (fun _ => hend h bc bs _ y5 y6 y7 y8) (fun c9 => absurd ((law_more hL (by omega)).2 (by omega)) c9)
  · intro j k hjk ih h σ bc bs y5 y6 y7 y8 I hb hd
    refine aw_ild4 X dL_law_23 rfl ?_
    refine aw_ald0 X dL_law_25 rfl ?_
    refine aw_slen X SX dL_law_26 rfl ?_
    refine aw_bipush X (nI 7) dL_law_27 (by decide) rfl ?_
    refine aw_isub X dL_law_29 rfl ?_
    refine aw_icmp_gt (n2 := 1914) X dL_law_30 rfl rfl (fun c9 => absurd ((law_more hL (by omega)).1 c9) (by omega)) (fun _ => ?_)
    refine law_step X hN SX hz0 hL (J := 7 * k) (Cr := 1195 * j) (Dr := 4582 * j) (by omega) I (by omega) (by omega) (fun h2 σ2 b2 d2 z5 z6 z7 z8 I2 hb2 hd2 => ?_)
    refine aw_iinc4 X (nI 7) dL_law_1908 (by decide) rfl (by decide) rfl ?_
    refine aw_goto (n := 23) X dL_law_1911 rfl ?_
    rw [nI_plus, show 7 * k + 7 = 7 * (k + 1) by omega]
    exact ih h2 σ2 b2 d2 z5 z6 z7 z8 I2 hb2 hd2
set_option maxHeartbeats 4000000 in
set_option maxRecDepth 100000 in
theorem law_start {p : Program} {l : Launch} {e : Env} {s : State} {m : MethodId} {below : List Frame} {meth : Method} {c : Code} {Q : State → Prop} {a0 : Array Value} {G : GG} {h0 : AH} {b L : Nat} {xs : Nat → Int32} (X : MX p l s m meth c s a0 G cL_law "KelirnightLaw" 9) (hN : NX s) (SX : va_X b L xs s s.heap ∧ b < s.heap.size) (hz0 : ∀ b t x, h0 b = some (t, x) → t = 0) (hL : L ≤ 3584) (ez : EZ G h0) (hend : ∀ (ke mo out : Nat) (h : AH) (bc bs J : Nat) (y5 y6 y7 y8 : Option Value), AW p l e room_1 s m #[.ref b] below meth c Q s G 9 1 h0 h bc bs 1914 [some (.ref b), some (.ref ke), some (.ref mo), some (.ref out), some (.int (nI J)), y5, y6, y7, y8] []) : AW p l e room_1 s m #[.ref b] below meth c Q s G 9 1 h0 h0 715798 6948710 0 [some (.ref b), none, none, none, none, none, none, none, none] [] := by
  obtain ⟨b0, hb0⟩ : ∃ b0, b0 = 1195 * (L / 7) + 25 * 540 := ⟨_, rfl⟩
  obtain ⟨d0, hd0⟩ : ∃ d0, d0 = 4582 * (L / 7) + 100 * 540 := ⟨_, rfl⟩
  obtain ⟨b1, hb1⟩ : ∃ b1, b1 = b0 + 1 := ⟨_, rfl⟩
  obtain ⟨d1, hd1⟩ : ∃ d1, d1 = d0 + 1 := ⟨_, rfl⟩
  obtain ⟨b2, hb2⟩ : ∃ b2, b2 = b1 + 3 := ⟨_, rfl⟩
  obtain ⟨d2, hd2⟩ : ∃ d2, d2 = d1 + 9 := ⟨_, rfl⟩
  obtain ⟨b3, hb3⟩ : ∃ b3, b3 = b2 + 1 := ⟨_, rfl⟩
  obtain ⟨d3, hd3⟩ : ∃ d3, d3 = d2 + 19 := ⟨_, rfl⟩
  obtain ⟨b4, hb4⟩ : ∃ b4, b4 = b3 + 6 := ⟨_, rfl⟩
  obtain ⟨d4, hd4⟩ : ∃ d4, d4 = d3 + 22 := ⟨_, rfl⟩
  refine AW.mono (bc2 := b4 + 1) (bs2 := d4 + 10) (by omega) (by omega) ?_
  refine aw_new X nw_L_8 dL_law_0 rfl (fun ke hk1 => ?_)
  have ne1 : ∀ a t x, h0 a = some (t, x) → a ≠ ke := fun a t x e q => by rw [q, hk1] at e; cases e
  refine aw_dup X dL_law_3 rfl rfl ?_
  refine AW.mono (bc2 := b3 + 6) (bs2 := d3 + 22) (Nat.le_of_eq hb4.symm) (Nat.le_of_eq hd4.symm) ?_
  refine aw_callI X dL_law_4 rfl (k_X6_init X.1 (by decide) hu_s ((hu_n (ne1 _ _ _ ez.1)).trans ez.1)) cmX6_init ml_L_95 rfl rfl (Nat.le_of_ble_eq_true rfl) ⟨Nat.le_of_ble_eq_true rfl, Nat.le_of_ble_eq_true rfl⟩ (fun r h1 hq hf => ?_)
  obtain ⟨rfl, A, w⟩ := hq
  have ez1 : EZ G h1 := ⟨hf.1 _ _ _ ((hu_n (ne1 _ _ _ ez.1)).trans ez.1) (by decide), hf.1 _ _ _ ((hu_n (ne1 _ _ _ ez.2)).trans ez.2) (by decide)⟩
  refine aw_ast1 X dL_law_7 rfl (by decide) rfl ?_
  refine aw_tg (tg2 := 2) hz0 (by decide) ?_
  refine AW.mono (bc2 := b2 + 1) (bs2 := d2 + 19) (Nat.le_of_eq hb3.symm) (Nat.le_of_eq hd3.symm) ?_
  refine aw_new X nw_L_96 dL_law_8 rfl (fun mo hk2 => ?_)
  have ne2 : ∀ a t x, h1 a = some (t, x) → a ≠ mo := fun a t x e q => by rw [q, hk2] at e; cases e
  refine aw_dup X dL_law_11 rfl rfl ?_
  refine AW.mono (bc2 := b1 + 3) (bs2 := d1 + 9) (Nat.le_of_eq hb2.symm) (Nat.le_of_eq hd2.symm) ?_
  refine aw_callI X dL_law_12 rfl (k_X7_init X.1 (by decide) hu_s ((hu_n (ne2 _ _ _ ez1.1)).trans ez1.1)) cmX7_init ml_L_98 rfl rfl (Nat.le_of_ble_eq_true rfl) ⟨Nat.le_of_ble_eq_true rfl, Nat.le_of_ble_eq_true rfl⟩ (fun r h2 hq2 hf2 => ?_)
  obtain ⟨rfl, A9, w9⟩ := hq2
  have kp : ∀ a t x, h1 a = some (t, x) → t ≠ 2 → h2 a = some (t, x) := fun a t x e n => hf2.1 _ _ _ ((hu_n (ne2 _ _ _ e)).trans e) n
  have ez2 : EZ G h2 := ⟨kp _ _ _ ez1.1 (by decide), kp _ _ _ ez1.2 (by decide)⟩
  have w2 := w.tagK (fun a x e => kp a 1 x e (by decide)) (ez2.1.trans ez1.1.symm)
  refine aw_ast2 X dL_law_15 rfl (by decide) rfl ?_
  refine aw_tg (tg2 := 3) hz0 (by decide) ?_
  refine aw_iconst X (1) dL_law_16 (by decide) rfl ?_
  refine AW.mono (bc2 := b0 + 1) (bs2 := d0 + 1) (Nat.le_of_eq hb1.symm) (Nat.le_of_eq hd1.symm) ?_
  refine aw_newl X (N := 1) dL_law_17 rfl rfl (by decide) ac_long (fun out hk3 => ?_)
  have ne3 : ∀ a t x, h2 a = some (t, x) → a ≠ out := fun a t x e q => by rw [q, hk3] at e; cases e
  have kp3 : ∀ a t x, h2 a = some (t, x) → hu h2 out (3, .inl (1, 1, .inr (.inl (fun _ => 0)))) a = some (t, x) := fun a t x e => (hu_n (ne3 _ _ _ e)).trans e
  have ez3 : EZ G (hu h2 out (3, .inl (1, 1, .inr (.inl (fun _ => 0))))) := ⟨kp3 _ _ _ ez2.1, kp3 _ _ _ ez2.2⟩
  have w3 := w2.tagK (fun a x e => kp3 a 1 x e) (ez3.1.trans ez2.1.symm)
  have w8 := w9.tagK (fun a x e => kp3 a 2 x e) (ez3.1.trans ez2.1.symm)
  refine aw_ast3 X dL_law_19 rfl (by decide) rfl ?_
  refine aw_tg (tg2 := 1) hz0 (by decide) ?_
  refine aw_iconst X (nI (7 * 0)) dL_law_20 (by decide) rfl ?_
  refine aw_ist4 X dL_law_21 rfl (by decide) rfl ?_
  have hm0 : iN ns0.mi = 0 := by decide
  exact law_loop X hN SX hz0 hL (fun h bc bs J y5 y6 y7 y8 => hend ke mo out h bc bs J y5 y6 y7 y8) (L / 7) 0 rfl _ ns0 b0 d0 _ _ _ _ ⟨⟨A, w3⟩, ⟨A9, 0, 0, w8⟩, ⟨fun _ => 0, hu_s⟩, ez3, IV_ns0⟩ (by rw [hm0]; omega) (by rw [hm0]; omega)
