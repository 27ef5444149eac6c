/-! ASKED RIGHTLY: the answer, and the store as it was -/
theorem fv0 (r : Nat → Int32) (di sw : Int32) : fvl r di sw 0 = r 0 := rfl
theorem fv1 (r : Nat → Int32) (di sw : Int32) : fvl r di sw 1 = r 1 := rfl
theorem fv2 (r : Nat → Int32) (di sw : Int32) : fvl r di sw 2 = r 2 := rfl
theorem fv3 (r : Nat → Int32) (di sw : Int32) : fvl r di sw 3 = r 3 := rfl
theorem fv4 (r : Nat → Int32) (di sw : Int32) : fvl r di sw 4 = r 4 := rfl
theorem fv5 (r : Nat → Int32) (di sw : Int32) : fvl r di sw 5 = r 5 := rfl
theorem fv6 (r : Nat → Int32) (di sw : Int32) : fvl r di sw 6 = shad r di (r 5) := rfl
theorem nI_isP {n k : Nat} (h : k < n) (hn : n < 2 ^ 31) : 0 ≤ nI k ∧ nI k < nI n := ⟨nI_0le k (by omega), nI_lt h hn⟩
/-- who knows ahead of the scene k -/
def KN (σ : NS) (k : Nat) : Int32 := rK σ.S (kfS σ.P σ.np) k
theorem bI_bt {x : Int32} {i : Nat} (hi : i < 31) : bI (holdsP x (nI i)) = if bt x i = true then 1 else 0 := by
  by_cases c : bt x i = true
  · rw [if_pos c, bI_t ((holds_bt hi).mpr c)]
  · rw [if_neg c, bI_f (fun q => c ((holds_bt hi).mp q))]

set_option maxHeartbeats 4000000 in
set_option maxRecDepth 100000 in
theorem r_fig {l : Launch} {s0 : State} {a0 : Array Value} {G : GG} (X : CX l s0 a0 G) {h : AH} {tg ke : Nat} {A : KA} {σ : NS} (w : KelW G h tg ke A σ) {k : Nat} {x q v : Int32} (hx : x = nI k) (hk : k < σ.nf) (hq : ¬ (q < 0 ∨ 7 < q)) (hv : fvl (σ.F k) σ.di σ.sw q = v)  : Con l s0 G yX6_ofFigure cX6_ofFigure 3 (some .int) 6 0 0 tg [.ref ke, .int x, .int q] h (RS (.int v) h) := by
  refine Con.of X (by decide +kernel) [some (.ref ke), some (.int x), some (.int q)] rfl (Nat.le_of_ble_eq_true rfl) (fun p e s m below meth c X hnm hret => ?_)
  have w0 := w
  obtain ⟨hke, hpw, hsw, hoc, hd1, hd2, hd3, hd4⟩ := w
  have hpl := hpw.1
  have hlp := hpw.2.1
  have hls := hpw.2.2.1
  have hP := hpw.2.2.2.1
  have hS := hpw.2.2.2.2.1
  have hn8 := hpw.2.2.2.2.2.1
  have hn10 := hpw.2.2.2.2.2.2.1
  have hsc := hsw.1
  have hlf := hsw.2.1
  have hF := hsw.2.2.1
  have hn12 := hsw.2.2.2.1
  have hX9 := nI_isP hk (show σ.nf < 2 ^ 31 by omega)
  rw [← hx] at hX9
  refine aw_ald0 X dX6_ofFigure_0 rfl ?_
  refine aw_ild1 X dX6_ofFigure_1 rfl ?_
  refine aw_callV X dX6_ofFigure_2 rfl (k_X6_isFigure X.1 w0 _) cmX6_isFigure ml_X6_175 rfl hke rfl rfl (Nat.le_of_ble_eq_true rfl) ⟨Nat.le_of_ble_eq_true rfl, Nat.le_of_ble_eq_true rfl⟩ (aw_rs ?_)
  refine aw_if_ne (n2 := 18) X dX6_ofFigure_5 rfl rfl (fun c5 => ?_) (fun c5 => absurd c5 (fun z => bI_n z hX9))
  refine aw_ild2 X dX6_ofFigure_18 rfl ?_
  refine aw_iconst X (0) dX6_ofFigure_19 (by decide) rfl ?_
  refine aw_bipush X (7) dX6_ofFigure_20 (by decide) rfl ?_
  refine aw_callS X dX6_ofFigure_22 rfl (k_X6_outside X.1 _ _ _) cmX6_outside ml_X6_52 rfl rfl (Nat.le_of_ble_eq_true rfl) ⟨Nat.le_of_ble_eq_true rfl, Nat.le_of_ble_eq_true rfl⟩ (aw_rs ?_)
  refine aw_if_eq (n2 := 39) X dX6_ofFigure_25 rfl rfl (fun c25 => ?_) (fun c25 => absurd (bI_f hq) c25)
  refine aw_ald0 X dX6_ofFigure_39 rfl ?_
  refine aw_get X fd_X6_19 dX6_ofFigure_40 rfl hke rfl ?_
  refine aw_ald0 X dX6_ofFigure_43 rfl ?_
  refine aw_get X fd_X6_19 dX6_ofFigure_44 rfl hke rfl ?_
  refine aw_get X fd_X6_98 dX6_ofFigure_47 rfl hsc rfl ?_
  refine aw_ild1 X dX6_ofFigure_50 rfl ?_
  refine aw_callV X dX6_ofFigure_51 rfl (k_lget X.1 hlf hx hk (hF _ hk).1) cmJx4a65c_get_915e3 ml_X6_105 rfl hlf.1 rfl rfl (Nat.le_of_ble_eq_true rfl) ⟨Nat.le_of_ble_eq_true rfl, Nat.le_of_ble_eq_true rfl⟩ (aw_rs ?_)
  refine aw_cast X dX6_ofFigure_54 rfl rfl cc_X6_103 (hF _ hk).2 ?_
  refine aw_ild2 X dX6_ofFigure_57 rfl ?_
  refine aw_callV X dX6_ofFigure_58 rfl (k_X5_figureValue X.1 hsw (hF _ hk).2 q) cmX5_figureValue ml_X6_297 rfl hsc rfl rfl (Nat.le_of_ble_eq_true rfl) ⟨Nat.le_of_ble_eq_true rfl, Nat.le_of_ble_eq_true rfl⟩ (aw_rs ?_)
  exact aw_iret X hret rfl dX6_ofFigure_61 (⟨by rw [hv], rfl⟩)

set_option maxHeartbeats 4000000 in
set_option maxRecDepth 100000 in
theorem r_scn {l : Launch} {s0 : State} {a0 : Array Value} {G : GG} (X : CX l s0 a0 G) {h : AH} {tg ke : Nat} {A : KA} {σ : NS} (w : KelW G h tg ke A σ) {k : Nat} {x q v : Int32} (hx : x = nI k) (hk : k < σ.ns) (hq : ¬ (q < 0 ∨ 8 < q)) (hv : svl (σ.S k) (rX σ.S (cbS σ) (kfS σ.P σ.np) k) q = v)  : Con l s0 G yX6_ofScene cX6_ofScene 3 (some .int) 6 0 0 tg [.ref ke, .int x, .int q] h (RS (.int v) h) := by
  refine Con.of X (by decide +kernel) [some (.ref ke), some (.int x), some (.int q)] rfl (Nat.le_of_ble_eq_true rfl) (fun p e s m below meth c X hnm hret => ?_)
  have w0 := w
  obtain ⟨hke, hpw, hsw, hoc, hd1, hd2, hd3, hd4⟩ := w
  have hpl := hpw.1
  have hlp := hpw.2.1
  have hls := hpw.2.2.1
  have hP := hpw.2.2.2.1
  have hS := hpw.2.2.2.2.1
  have hn8 := hpw.2.2.2.2.2.1
  have hn10 := hpw.2.2.2.2.2.2.1
  have hsc := hsw.1
  have hlf := hsw.2.1
  have hF := hsw.2.2.1
  have hn12 := hsw.2.2.2.1
  have hX9 := nI_isP hk (show σ.ns < 2 ^ 31 by omega)
  rw [← hx] at hX9
  refine aw_ald0 X dX6_ofScene_0 rfl ?_
  refine aw_ild1 X dX6_ofScene_1 rfl ?_
  refine aw_callV X dX6_ofScene_2 rfl (k_X6_isScene X.1 w0 _) cmX6_isScene ml_X6_140 rfl hke rfl rfl (Nat.le_of_ble_eq_true rfl) ⟨Nat.le_of_ble_eq_true rfl, Nat.le_of_ble_eq_true rfl⟩ (aw_rs ?_)
  refine aw_if_ne (n2 := 18) X dX6_ofScene_5 rfl rfl (fun c5 => ?_) (fun c5 => absurd c5 (fun z => bI_n z hX9))
  refine aw_ild2 X dX6_ofScene_18 rfl ?_
  refine aw_iconst X (0) dX6_ofScene_19 (by decide) rfl ?_
  refine aw_bipush X (8) dX6_ofScene_20 (by decide) rfl ?_
  refine aw_callS X dX6_ofScene_22 rfl (k_X6_outside X.1 _ _ _) cmX6_outside ml_X6_52 rfl rfl (Nat.le_of_ble_eq_true rfl) ⟨Nat.le_of_ble_eq_true rfl, Nat.le_of_ble_eq_true rfl⟩ (aw_rs ?_)
  refine aw_if_eq (n2 := 39) X dX6_ofScene_25 rfl rfl (fun c25 => ?_) (fun c25 => absurd (bI_f hq) c25)
  refine aw_ald0 X dX6_ofScene_39 rfl ?_
  refine aw_get X fd_X6_10 dX6_ofScene_40 rfl hke rfl ?_
  refine aw_get X fd_X6_131 dX6_ofScene_43 rfl hpl rfl ?_
  refine aw_ild1 X dX6_ofScene_46 rfl ?_
  refine aw_callV X dX6_ofScene_47 rfl (k_lget X.1 hls hx hk (hS _ hk).1) cmJx4a65c_get_915e3 ml_X6_105 rfl hls.1 rfl rfl (Nat.le_of_ble_eq_true rfl) ⟨Nat.le_of_ble_eq_true rfl, Nat.le_of_ble_eq_true rfl⟩ (aw_rs ?_)
  refine aw_cast X dX6_ofScene_50 rfl rfl cc_X6_147 (hS _ hk).2 ?_
  refine aw_ild2 X dX6_ofScene_53 rfl ?_
  refine aw_callV X dX6_ofScene_54 rfl (k_X4_value X.1 (hS _ hk).2 q) cmX4_value ml_X6_302 rfl (hS _ hk).2 rfl rfl (Nat.le_of_ble_eq_true rfl) ⟨Nat.le_of_ble_eq_true rfl, Nat.le_of_ble_eq_true rfl⟩ (aw_rs ?_)
  exact aw_iret X hret rfl dX6_ofScene_57 (⟨by rw [hv], rfl⟩)

set_option maxHeartbeats 4000000 in
set_option maxRecDepth 100000 in
theorem r_at {l : Launch} {s0 : State} {a0 : Array Value} {G : GG} (X : CX l s0 a0 G) {h : AH} {tg ke : Nat} {A : KA} {σ : NS} (w : KelW G h tg ke A σ) {x : Int32} (hq : 0 ≤ x ∧ x ≤ 9)  : Con l s0 G yX6_at cX6_at 2 (some .int) 6 0 0 tg [.ref ke, .int x] h (RS (.int (figAt σ.F σ.nf x)) h) := by
  refine Con.of X (by decide +kernel) [some (.ref ke), some (.int x)] rfl (Nat.le_of_ble_eq_true rfl) (fun p e s m below meth c X hnm hret => ?_)
  have w0 := w
  obtain ⟨hke, hpw, hsw, hoc, hd1, hd2, hd3, hd4⟩ := w
  have hpl := hpw.1
  have hlp := hpw.2.1
  have hls := hpw.2.2.1
  have hP := hpw.2.2.2.1
  have hS := hpw.2.2.2.2.1
  have hn8 := hpw.2.2.2.2.2.1
  have hn10 := hpw.2.2.2.2.2.2.1
  have hsc := hsw.1
  have hlf := hsw.2.1
  have hF := hsw.2.2.1
  have hn12 := hsw.2.2.2.1
  refine aw_ild1 X dX6_at_0 rfl ?_
  refine aw_callS X dX6_at_1 rfl (k_X6_isPlace X.1 _) cmX6_isPlace ml_X6_197 rfl rfl (Nat.le_of_ble_eq_true rfl) ⟨Nat.le_of_ble_eq_true rfl, Nat.le_of_ble_eq_true rfl⟩ (aw_rs ?_)
  refine aw_if_ne (n2 := 17) X dX6_at_4 rfl rfl (fun c4 => ?_) (fun c4 => absurd c4 (fun z => bI_n z hq))
  refine aw_ald0 X dX6_at_17 rfl ?_
  refine aw_get X fd_X6_19 dX6_at_18 rfl hke rfl ?_
  refine aw_ild1 X dX6_at_21 rfl ?_
  refine aw_callV X dX6_at_22 rfl (k_figAt X.1 w0 _) cmX5_figureAt ml_X6_209 rfl hsc rfl rfl (Nat.le_of_ble_eq_true rfl) ⟨Nat.le_of_ble_eq_true rfl, Nat.le_of_ble_eq_true rfl⟩ (aw_rs ?_)
  exact aw_iret X hret rfl dX6_at_25 (⟨rfl, rfl⟩)

set_option maxHeartbeats 4000000 in
set_option maxRecDepth 100000 in
theorem r_snd {l : Launch} {s0 : State} {a0 : Array Value} {G : GG} (X : CX l s0 a0 G) {h : AH} {tg ke : Nat} {A : KA} {σ : NS} (w : KelW G h tg ke A σ) {q v : Int32} (hq : ¬ (q < 0 ∨ 3 < q)) (hv : ovl σ.o q = v)  : Con l s0 G yX6_sound cX6_sound 2 (some .int) 6 0 0 tg [.ref ke, .int q] h (RS (.int v) h) := by
  refine Con.of X (by decide +kernel) [some (.ref ke), some (.int q)] rfl (Nat.le_of_ble_eq_true rfl) (fun p e s m below meth c X hnm hret => ?_)
  have w0 := w
  obtain ⟨hke, hpw, hsw, hoc, hd1, hd2, hd3, hd4⟩ := w
  have hpl := hpw.1
  have hlp := hpw.2.1
  have hls := hpw.2.2.1
  have hP := hpw.2.2.2.1
  have hS := hpw.2.2.2.2.1
  have hn8 := hpw.2.2.2.2.2.1
  have hn10 := hpw.2.2.2.2.2.2.1
  have hsc := hsw.1
  have hlf := hsw.2.1
  have hF := hsw.2.2.1
  have hn12 := hsw.2.2.2.1
  refine aw_ild1 X dX6_sound_0 rfl ?_
  refine aw_iconst X (0) dX6_sound_1 (by decide) rfl ?_
  refine aw_iconst X (3) dX6_sound_2 (by decide) rfl ?_
  refine aw_callS X dX6_sound_3 rfl (k_X6_outside X.1 _ _ _) cmX6_outside ml_X6_52 rfl rfl (Nat.le_of_ble_eq_true rfl) ⟨Nat.le_of_ble_eq_true rfl, Nat.le_of_ble_eq_true rfl⟩ (aw_rs ?_)
  refine aw_if_eq (n2 := 20) X dX6_sound_6 rfl rfl (fun c6 => ?_) (fun c6 => absurd (bI_f hq) c6)
  refine aw_ald0 X dX6_sound_20 rfl ?_
  refine aw_get X fd_X6_26 dX6_sound_21 rfl hke rfl ?_
  refine aw_ild1 X dX6_sound_24 rfl ?_
  refine aw_callV X dX6_sound_25 rfl (k_X1_value X.1 hoc _) cmX1_value ml_X6_307 rfl hoc rfl rfl (Nat.le_of_ble_eq_true rfl) ⟨Nat.le_of_ble_eq_true rfl, Nat.le_of_ble_eq_true rfl⟩ (aw_rs ?_)
  exact aw_iret X hret rfl dX6_sound_28 (⟨by rw [hv], rfl⟩)

set_option maxHeartbeats 4000000 in
set_option maxRecDepth 100000 in
theorem r_man {l : Launch} {s0 : State} {a0 : Array Value} {G : GG} (X : CX l s0 a0 G) {h : AH} {tg ke : Nat} {A : KA} {σ : NS} (w : KelW G h tg ke A σ) {q v : Int32} (hq : ¬ (q < 0 ∨ 15 < q)) (hv : manS σ q = v)  : Con l s0 G yX6_many cX6_many 2 (some .int) 6 0 0 tg [.ref ke, .int q] h (RS (.int v) h) := by
  refine Con.of X (by decide +kernel) [some (.ref ke), some (.int q)] rfl (Nat.le_of_ble_eq_true rfl) (fun p e s m below meth c X hnm hret => ?_)
  have w0 := w
  obtain ⟨hke, hpw, hsw, hoc, hd1, hd2, hd3, hd4⟩ := w
  have hpl := hpw.1
  have hlp := hpw.2.1
  have hls := hpw.2.2.1
  have hP := hpw.2.2.2.1
  have hS := hpw.2.2.2.2.1
  have hn8 := hpw.2.2.2.2.2.1
  have hn10 := hpw.2.2.2.2.2.2.1
  have hsc := hsw.1
  have hlf := hsw.2.1
  have hF := hsw.2.2.1
  have hn12 := hsw.2.2.2.1
  refine aw_ild1 X dX6_many_0 rfl ?_
  refine aw_iconst X (0) dX6_many_1 (by decide) rfl ?_
  refine aw_bipush X (15) dX6_many_2 (by decide) rfl ?_
  refine aw_callS X dX6_many_4 rfl (k_X6_outside X.1 _ _ _) cmX6_outside ml_X6_52 rfl rfl (Nat.le_of_ble_eq_true rfl) ⟨Nat.le_of_ble_eq_true rfl, Nat.le_of_ble_eq_true rfl⟩ (aw_rs ?_)
  refine aw_if_eq (n2 := 21) X dX6_many_7 rfl rfl (fun c7 => ?_) (fun c7 => absurd (bI_f hq) c7)
  refine aw_ald0 X dX6_many_21 rfl ?_
  refine aw_ild1 X dX6_many_22 rfl ?_
  refine aw_callV X dX6_many_23 rfl (k_X6_nightValue X.1 w0 _) cmX6_nightValue ml_X6_310 rfl hke rfl rfl (Nat.le_of_ble_eq_true rfl) ⟨Nat.le_of_ble_eq_true rfl, Nat.le_of_ble_eq_true rfl⟩ (aw_rs ?_)
  exact aw_iret X hret rfl dX6_many_26 (⟨by rw [hv], rfl⟩)

set_option maxHeartbeats 4000000 in
set_option maxRecDepth 100000 in
theorem r_kn0 {l : Launch} {s0 : State} {a0 : Array Value} {G : GG} (X : CX l s0 a0 G) {h : AH} {tg ke : Nat} {A : KA} {σ : NS} (w : KelW G h tg ke A σ) {i : Nat} {x : Int32} (hx : x = nI i) (hi : i < σ.np)  : Con l s0 G yX6_knows cX6_knows 3 (some .boolean) 6 0 0 tg [.ref ke, .int x, .int (-1)] h (RS (.int (if bt (KN σ 0) i = true then 1 else 0)) h) := by
  refine Con.of X (by decide +kernel) [some (.ref ke), some (.int x), some (.int (-1))] rfl (Nat.le_of_ble_eq_true rfl) (fun p e s m below meth c X hnm hret => ?_)
  have w0 := w
  obtain ⟨hke, hpw, hsw, hoc, hd1, hd2, hd3, hd4⟩ := w
  have hpl := hpw.1
  have hlp := hpw.2.1
  have hls := hpw.2.2.1
  have hP := hpw.2.2.2.1
  have hS := hpw.2.2.2.2.1
  have hn8 := hpw.2.2.2.2.2.1
  have hn10 := hpw.2.2.2.2.2.2.1
  have hsc := hsw.1
  have hlf := hsw.2.1
  have hF := hsw.2.2.1
  have hn12 := hsw.2.2.2.1
  have hX9 := nI_isP hi (show σ.np < 2 ^ 31 by omega)
  rw [← hx] at hX9
  refine aw_ald0 X dX6_knows_0 rfl ?_
  refine aw_ild1 X dX6_knows_1 rfl ?_
  refine aw_callV X dX6_knows_2 rfl (k_X6_isPerson X.1 w0 _) cmX6_isPerson ml_X6_87 rfl hke rfl rfl (Nat.le_of_ble_eq_true rfl) ⟨Nat.le_of_ble_eq_true rfl, Nat.le_of_ble_eq_true rfl⟩ (aw_rs ?_)
  refine aw_if_eq (n2 := 21) X dX6_knows_5 rfl rfl (fun c5 => absurd c5 (fun z => bI_n z hX9)) (fun c5 => ?_)
  refine aw_ild2 X dX6_knows_8 rfl ?_
  refine aw_iconst X (-1) dX6_knows_9 (by decide) rfl ?_
  refine aw_icmp_eq (n2 := 32) X dX6_knows_10 rfl rfl (fun c10 => ?_) (fun c10 => absurd rfl c10)
  refine aw_ald0 X dX6_knows_32 rfl ?_
  refine aw_get X fd_X6_10 dX6_knows_33 rfl hke rfl ?_
  refine aw_ild2 X dX6_knows_36 rfl ?_
  refine aw_callV X dX6_knows_37 rfl (k_knB0 X.1 hpw) cmX3_knowersBehind ml_X6_292 rfl hpl rfl rfl (Nat.le_of_ble_eq_true rfl) ⟨Nat.le_of_ble_eq_true rfl, Nat.le_of_ble_eq_true rfl⟩ (aw_rs ?_)
  refine aw_ild1 X dX6_knows_40 rfl ?_
  refine aw_callS X dX6_knows_41 rfl (k_X6_holds X.1 _ _) cmX6_holds ml_X6_260 rfl rfl (Nat.le_of_ble_eq_true rfl) ⟨Nat.le_of_ble_eq_true rfl, Nat.le_of_ble_eq_true rfl⟩ (aw_rs ?_)
  exact aw_iret X hret bI_nar dX6_knows_44 (⟨by rw [hx, bI_bt (by omega)]; rfl, rfl⟩)

set_option maxHeartbeats 4000000 in
set_option maxRecDepth 100000 in
theorem r_kn1 {l : Launch} {s0 : State} {a0 : Array Value} {G : GG} (X : CX l s0 a0 G) {h : AH} {tg ke : Nat} {A : KA} {σ : NS} (w : KelW G h tg ke A σ) {i : Nat} {x : Int32} (hx : x = nI i) (hi : i < σ.np) {j : Nat} {y : Int32} (hy : y = nI j) (hj : j < σ.ns)  : Con l s0 G yX6_knows cX6_knows 3 (some .boolean) 6 0 0 tg [.ref ke, .int x, .int y] h (RS (.int (if bt (KN σ (j + 1)) i = true then 1 else 0)) h) := by
  refine Con.of X (by decide +kernel) [some (.ref ke), some (.int x), some (.int y)] rfl (Nat.le_of_ble_eq_true rfl) (fun p e s m below meth c X hnm hret => ?_)
  have w0 := w
  obtain ⟨hke, hpw, hsw, hoc, hd1, hd2, hd3, hd4⟩ := w
  have hpl := hpw.1
  have hlp := hpw.2.1
  have hls := hpw.2.2.1
  have hP := hpw.2.2.2.1
  have hS := hpw.2.2.2.2.1
  have hn8 := hpw.2.2.2.2.2.1
  have hn10 := hpw.2.2.2.2.2.2.1
  have hsc := hsw.1
  have hlf := hsw.2.1
  have hF := hsw.2.2.1
  have hn12 := hsw.2.2.2.1
  have hX9 := nI_isP hi (show σ.np < 2 ^ 31 by omega)
  rw [← hx] at hX9
  have hY9 := nI_isP hj (show σ.ns < 2 ^ 31 by omega)
  rw [← hy] at hY9
  have hm1 : ¬ y = -1 := fun z => by rw [z] at hY9; exact absurd hY9.1 (by decide)
  refine aw_ald0 X dX6_knows_0 rfl ?_
  refine aw_ild1 X dX6_knows_1 rfl ?_
  refine aw_callV X dX6_knows_2 rfl (k_X6_isPerson X.1 w0 _) cmX6_isPerson ml_X6_87 rfl hke rfl rfl (Nat.le_of_ble_eq_true rfl) ⟨Nat.le_of_ble_eq_true rfl, Nat.le_of_ble_eq_true rfl⟩ (aw_rs ?_)
  refine aw_if_eq (n2 := 21) X dX6_knows_5 rfl rfl (fun c5 => absurd c5 (fun z => bI_n z hX9)) (fun c5 => ?_)
  refine aw_ild2 X dX6_knows_8 rfl ?_
  refine aw_iconst X (-1) dX6_knows_9 (by decide) rfl ?_
  refine aw_icmp_eq (n2 := 32) X dX6_knows_10 rfl rfl (fun c10 => absurd c10 hm1) (fun c10 => ?_)
  refine aw_ald0 X dX6_knows_13 rfl ?_
  refine aw_ild2 X dX6_knows_14 rfl ?_
  refine aw_callV X dX6_knows_15 rfl (k_X6_isScene X.1 w0 _) cmX6_isScene ml_X6_140 rfl hke rfl rfl (Nat.le_of_ble_eq_true rfl) ⟨Nat.le_of_ble_eq_true rfl, Nat.le_of_ble_eq_true rfl⟩ (aw_rs ?_)
  refine aw_if_ne (n2 := 32) X dX6_knows_18 rfl rfl (fun c18 => ?_) (fun c18 => absurd c18 (fun z => bI_n z hY9))
  refine aw_ald0 X dX6_knows_32 rfl ?_
  refine aw_get X fd_X6_10 dX6_knows_33 rfl hke rfl ?_
  refine aw_ild2 X dX6_knows_36 rfl ?_
  refine aw_callV X dX6_knows_37 rfl (k_knB X.1 hpw hy hj) cmX3_knowersBehind ml_X6_292 rfl hpl rfl rfl (Nat.le_of_ble_eq_true rfl) ⟨Nat.le_of_ble_eq_true rfl, Nat.le_of_ble_eq_true rfl⟩ (aw_rs ?_)
  refine aw_ild1 X dX6_knows_40 rfl ?_
  refine aw_callS X dX6_knows_41 rfl (k_X6_holds X.1 _ _) cmX6_holds ml_X6_260 rfl rfl (Nat.le_of_ble_eq_true rfl) ⟨Nat.le_of_ble_eq_true rfl, Nat.le_of_ble_eq_true rfl⟩ (aw_rs ?_)
  exact aw_iret X hret bI_nar dX6_knows_44 (⟨by rw [hx, bI_bt (by omega)]; rfl, rfl⟩)

/-- whether one knows ahead of the scene k: asked of the scene ahead of it -/
theorem r_kn {l : Launch} {s0 : State} {a0 : Array Value} {G : GG} (X : CX l s0 a0 G) {h : AH} {tg ke : Nat} {A : KA} {σ : NS} (w : KelW G h tg ke A σ) {i : Nat} {x : Int32} (hx : x = nI i) (hi : i < σ.np) {k : Nat} {y : Int32} (hy : y = nI k - 1) (hk : k ≤ σ.ns) : Con l s0 G yX6_knows cX6_knows 3 (some .boolean) 6 0 0 tg [.ref ke, .int x, .int y] h (RS (.int (if bt (KN σ k) i = true then 1 else 0)) h) := by
  cases k with
  | zero =>
    have e : y = -1 := by rw [hy]; decide
    rw [e]
    exact r_kn0 X w hx hi
  | succ j =>
    have e : y = nI j := by rw [hy, ← nI_1, Int32.add_sub_cancel]
    exact r_kn1 X w hx hi e (by omega)
