/-! ASKED: gongs, the best exchange, grips, the mean shadow, the checksum -/
def bsS (σ : NS) : Int32 := (bOut σ.S (cbS σ) (kfS σ.P σ.np) σ.ns σ.ns).2
def meanS (σ : NS) : UInt64 := if cntF σ.F σ.nf = 0 then FP.dconst0 else FP.ddiv (FP.i2d (sumF σ.F σ.di σ.nf)) (FP.i2d (cntF σ.F σ.nf))
def L31 (d : Int64) (v : Int32) : Int64 := d * 31 + v.toInt64
def pwS (σ : NS) (d : Int64) : Int64 := fo (fun k u => L31 u (bI (holdsP (knS σ (nI σ.ns - 1)) (nI k)))) d σ.np
def fwS (σ : NS) (d : Int64) : Int64 := fo (fun k u => L31 (fo (fun q u => L31 u (fvl (σ.F k) σ.di σ.sw (nI q))) u 8) (llf (σ.F k) σ.di 60)) d σ.nf
def swS2 (σ : NS) (d : Int64) : Int64 := fo (fun k u => fo (fun q u => L31 u (svl (σ.S k) (rX σ.S (cbS σ) (kfS σ.P σ.np) k) (nI q))) u 9) d σ.ns
def dgS (σ : NS) : Int64 :=
  let a := fo (fun q u => L31 u (manS σ (nI q))) 58227 16
  let b := swS2 σ (fwS σ (pwS σ a))
  let c := fo (fun q u => L31 u (figAt σ.F σ.nf (nI q))) b 10
  let d := fo (fun q u => L31 u (ovl σ.o (nI q))) c 4
  L31 (L31 (L31 d (ongo σ.o)) (bsS σ)) (gripF (sdS σ) σ.F σ.nf σ.nf)

theorem k_bestX {l : Launch} {s0 : State} {a0 : Array Value} {G : GG} (X : CX l s0 a0 G) {h : AH} {tg ke : Nat} {A : KA} {σ : NS} (htg : tg ≠ 0) (w : KelW G h tg ke A σ) : Con l s0 G yX3_bestExchange cX3_bestExchange 5 (some .int) 6 0 0 tg [.ref A.pl] h (fun r h2 => some (.int (bsS σ)) = r ∧ ∃ A2, KelW G h2 tg ke A2 σ) := by
  refine Con.imp (k_X3_bestExchange X htg w.2.1) ?_
  rintro r h2 ⟨hr, gs2, hw2, hfr⟩
  refine ⟨hr, A.wS A.Ls A.eds A.caps A.mds gs2 A.sa, ?_⟩
  exact w.plotS (S2 := σ.S) hw2 (Or.inl ⟨rfl, id⟩) (fun a c e n1 n2 n3 n4 => (hfr a n1 n3 n4).trans e)

set_option maxHeartbeats 4000000 in
set_option maxRecDepth 100000 in
theorem k_X6_nextGong {l : Launch} {s0 : State} {a0 : Array Value} {G : GG} (X : CX l s0 a0 G) {h : AH} {tg ke : Nat} {A : KA} {σ : NS} (w : KelW G h tg ke A σ)  : Con l s0 G yX6_nextGong cX6_nextGong 1 (some .int) 9 0 0 tg [.ref ke] h (RS (.int (ongo σ.o)) h) := by
  refine Con.of X (by decide +kernel) [some (.ref ke)] rfl (Nat.le_of_ble_eq_true rfl) (fun p e s m below meth c X hnm hret => ?_)
  have w0 := w
  obtain ⟨hke, hpw, hsw, hoc, hd1, hd2, hd3, hd4⟩ := w
  have hpl := hpw.1
  have hlp := hpw.2.1
  have hls := hpw.2.2.1
  have hP := hpw.2.2.2.1
  have hS := hpw.2.2.2.2.1
  have hn8 := hpw.2.2.2.2.2.1
  have hn10 := hpw.2.2.2.2.2.2.1
  have hsc := hsw.1
  have hlf := hsw.2.1
  have hF := hsw.2.2.1
  have hn12 := hsw.2.2.2.1
  refine aw_ald0 X dX6_nextGong_0 rfl ?_
  refine aw_get X fd_X6_26 dX6_nextGong_1 rfl hke rfl ?_
  refine aw_callV X dX6_nextGong_4 rfl (k_X1_minutesToGong X.1 hoc) cmX1_minutesToGong ml_X6_316 rfl hoc rfl rfl (Nat.le_of_ble_eq_true rfl) ⟨Nat.le_of_ble_eq_true rfl, Nat.le_of_ble_eq_true rfl⟩ (aw_rs ?_)
  exact aw_iret X hret rfl dX6_nextGong_7 (⟨rfl, rfl⟩)

set_option maxHeartbeats 4000000 in
set_option maxRecDepth 100000 in
theorem k_X6_gripable {l : Launch} {s0 : State} {a0 : Array Value} {G : GG} (X : CX l s0 a0 G) {h : AH} {tg ke : Nat} {A : KA} {σ : NS} (w : KelW G h tg ke A σ)  : Con l s0 G yX6_gripable cX6_gripable 1 (some .int) 9 0 0 tg [.ref ke] h (RS (.int (gripF (sdS σ) σ.F σ.nf σ.nf)) h) := by
  refine Con.of X (by decide +kernel) [some (.ref ke)] rfl (Nat.le_of_ble_eq_true rfl) (fun p e s m below meth c X hnm hret => ?_)
  have w0 := w
  obtain ⟨hke, hpw, hsw, hoc, hd1, hd2, hd3, hd4⟩ := w
  have hpl := hpw.1
  have hlp := hpw.2.1
  have hls := hpw.2.2.1
  have hP := hpw.2.2.2.1
  have hS := hpw.2.2.2.2.1
  have hn8 := hpw.2.2.2.2.2.1
  have hn10 := hpw.2.2.2.2.2.2.1
  have hsc := hsw.1
  have hlf := hsw.2.1
  have hF := hsw.2.2.1
  have hn12 := hsw.2.2.2.1
  refine aw_ald0 X dX6_gripable_0 rfl ?_
  refine aw_get X fd_X6_19 dX6_gripable_1 rfl hke rfl ?_
  refine aw_callV X dX6_gripable_4 rfl (k_X5_gripableFigures X.1 hsw) cmX5_gripableFigures ml_X6_327 rfl hsc rfl rfl (Nat.le_of_ble_eq_true rfl) ⟨Nat.le_of_ble_eq_true rfl, Nat.le_of_ble_eq_true rfl⟩ (aw_rs ?_)
  exact aw_iret X hret rfl dX6_gripable_7 (⟨rfl, rfl⟩)

set_option maxHeartbeats 4000000 in
set_option maxRecDepth 100000 in
theorem k_X6_meanShadow {l : Launch} {s0 : State} {a0 : Array Value} {G : GG} (X : CX l s0 a0 G) {h : AH} {tg ke : Nat} {A : KA} {σ : NS} (w : KelW G h tg ke A σ) (hn : ¬ cntF σ.F σ.nf = 0 → vf_n64 (FP.ddiv (FP.i2d (sumF σ.F σ.di σ.nf)) (FP.i2d (cntF σ.F σ.nf))))  : Con l s0 G yX6_meanShadow cX6_meanShadow 2 (some .double) 9 0 0 tg [.ref ke] h (RS (.double (meanS σ)) h) := by
  refine Con.of X (by decide +kernel) [some (.ref ke), none] rfl (Nat.le_of_ble_eq_true rfl) (fun p e s m below meth c X hnm hret => ?_)
  have w0 := w
  obtain ⟨hke, hpw, hsw, hoc, hd1, hd2, hd3, hd4⟩ := w
  have hpl := hpw.1
  have hlp := hpw.2.1
  have hls := hpw.2.2.1
  have hP := hpw.2.2.2.1
  have hS := hpw.2.2.2.2.1
  have hn8 := hpw.2.2.2.2.2.1
  have hn10 := hpw.2.2.2.2.2.2.1
  have hsc := hsw.1
  have hlf := hsw.2.1
  have hF := hsw.2.2.1
  have hn12 := hsw.2.2.2.1
  refine aw_ald0 X dX6_meanShadow_0 rfl ?_
  refine aw_get X fd_X6_19 dX6_meanShadow_1 rfl hke rfl ?_
  refine aw_callV X dX6_meanShadow_4 rfl (k_X5_shownFigures X.1 hsw) cmX5_shownFigures ml_X6_244 rfl hsc rfl rfl (Nat.le_of_ble_eq_true rfl) ⟨Nat.le_of_ble_eq_true rfl, Nat.le_of_ble_eq_true rfl⟩ (aw_rs ?_)
  refine aw_ist1 X dX6_meanShadow_7 rfl (by decide) rfl ?_
  refine aw_ild1 X dX6_meanShadow_8 rfl ?_
  refine aw_if_ne (n2 := 14) X dX6_meanShadow_9 rfl rfl (fun c9 => ?_) (fun c9 => ?_)
  · refine aw_ald0 X dX6_meanShadow_14 rfl ?_
    refine aw_get X fd_X6_19 dX6_meanShadow_15 rfl hke rfl ?_
    refine aw_callV X dX6_meanShadow_18 rfl (k_X5_shadowSum X.1 hsw) cmX5_shadowSum ml_X6_313 rfl hsc rfl rfl (Nat.le_of_ble_eq_true rfl) ⟨Nat.le_of_ble_eq_true rfl, Nat.le_of_ble_eq_true rfl⟩ (aw_rs ?_)
    refine aw_i2d X dX6_meanShadow_21 rfl ?_
    refine aw_ild1 X dX6_meanShadow_22 rfl ?_
    refine aw_i2d X dX6_meanShadow_23 rfl ?_
    refine aw_ddiv X dX6_meanShadow_24 (hn c9) rfl ?_
    exact aw_dret X hret dX6_meanShadow_25 (⟨by unfold meanS; rw [if_neg c9], rfl⟩)
  · refine aw_dconst0 X dX6_meanShadow_12 rfl ?_
    exact aw_dret X hret dX6_meanShadow_13 (⟨by unfold meanS; rw [if_pos c9], rfl⟩)

set_option maxHeartbeats 4000000 in
set_option maxRecDepth 100000 in
theorem k_X6_bestSwap {l : Launch} {s0 : State} {a0 : Array Value} {G : GG} (X : CX l s0 a0 G) {h : AH} {tg ke : Nat} {A : KA} {σ : NS} (htg : tg ≠ 0) (w : KelW G h tg ke A σ)  : Con l s0 G yX6_bestSwap cX6_bestSwap 1 (some .int) 9 0 0 tg [.ref ke] h (fun r h2 => some (.int (bsS σ)) = r ∧ ∃ A2, KelW G h2 tg ke A2 σ) := by
  refine Con.of X (by decide +kernel) [some (.ref ke)] rfl (Nat.le_of_ble_eq_true rfl) (fun p e s m below meth c X hnm hret => ?_)
  have w0 := w
  obtain ⟨hke, hpw, hsw, hoc, hd1, hd2, hd3, hd4⟩ := w
  have hpl := hpw.1
  have hlp := hpw.2.1
  have hls := hpw.2.2.1
  have hP := hpw.2.2.2.1
  have hS := hpw.2.2.2.2.1
  have hn8 := hpw.2.2.2.2.2.1
  have hn10 := hpw.2.2.2.2.2.2.1
  have hsc := hsw.1
  have hlf := hsw.2.1
  have hF := hsw.2.2.1
  have hn12 := hsw.2.2.2.1
  refine aw_ald0 X dX6_bestSwap_0 rfl ?_
  refine aw_get X fd_X6_10 dX6_bestSwap_1 rfl hke rfl ?_
  refine aw_callV X dX6_bestSwap_4 rfl (k_bestX X.1 htg w0) cmX3_bestExchange ml_X6_319 rfl hpl rfl rfl (Nat.le_of_ble_eq_true rfl) ⟨Nat.le_of_ble_eq_true rfl, Nat.le_of_ble_eq_true rfl⟩ (fun r h2 hq hf => ?_)
  obtain ⟨rfl, A2, hw2⟩ := hq
  exact aw_iret X hret rfl dX6_bestSwap_7 (⟨rfl, A2, hw2⟩)

theorem k_knX {l : Launch} {s0 : State} {a0 : Array Value} {G : GG} (X : CX l s0 a0 G) {h : AH} {tg ke : Nat} {A : KA} {σ : NS} (w : KelW G h tg ke A σ) : Con l s0 G yX3_knowersBehind cX3_knowersBehind 2 (some .int) 3 0 0 tg [.ref A.pl, .int (nI σ.ns - 1)] h (RS (.int (knS σ (nI σ.ns - 1))) h) := by
  by_cases q : σ.ns = 0
  · rw [q, show nI 0 - 1 = -1 by decide]
    exact k_knB0 X w.2.1
  · have hn := w.2.1.2.2.2.2.2.2.1
    obtain ⟨k, hk⟩ : ∃ k, σ.ns = k + 1 := ⟨σ.ns - 1, by omega⟩
    have e : nI σ.ns - 1 = nI k := by rw [hk, ← nI_1, Int32.add_sub_cancel]
    rw [e]
    have e2 : knS σ (nI k) = rX σ.S (cbS σ) (kfS σ.P σ.np) k 3 := by
      unfold knS
      rw [if_neg (by
        have : ∀ n, n < 11 → ¬ nI n = -1 := by decide +kernel
        exact this k (by omega)), iN_nI (by omega)]
      rfl
    rw [e2]
    exact k_knB X w.2.1 rfl (by omega)

set_option maxHeartbeats 4000000 in
set_option maxRecDepth 100000 in
theorem k_X6_mixPersons {l : Launch} {s0 : State} {a0 : Array Value} {G : GG} (X : CX l s0 a0 G) {h : AH} {tg ke : Nat} {A : KA} {σ : NS} (w : KelW G h tg ke A σ) (d : Int64)  : Con l s0 G yX6_mixPersons cX6_mixPersons 7 (some .long) 4 0 0 tg [.ref ke, .long d] h (RS (.long (pwS σ d)) h) := by
  refine Con.of X (by decide +kernel) [some (.ref ke), some (.long d), none, none, none, none, none] rfl (Nat.le_of_ble_eq_true rfl) (fun p e s m below meth c X hnm hret => ?_)
  have w0 := w
  obtain ⟨hke, hpw, hsw, hoc, hd1, hd2, hd3, hd4⟩ := w
  have hpl := hpw.1
  have hlp := hpw.2.1
  have hls := hpw.2.2.1
  have hP := hpw.2.2.2.1
  have hS := hpw.2.2.2.2.1
  have hn8 := hpw.2.2.2.2.2.1
  have hn10 := hpw.2.2.2.2.2.2.1
  have hsc := hsw.1
  have hlf := hsw.2.1
  have hF := hsw.2.2.1
  have hn12 := hsw.2.2.2.1
  refine aw_ald0 X dX6_mixPersons_0 rfl ?_
  refine aw_get X fd_X6_10 dX6_mixPersons_1 rfl hke rfl ?_
  refine aw_ald0 X dX6_mixPersons_4 rfl ?_
  refine aw_get X fd_X6_10 dX6_mixPersons_5 rfl hke rfl ?_
  refine aw_get X fd_X6_131 dX6_mixPersons_8 rfl hpl rfl ?_
  refine aw_callV X dX6_mixPersons_11 rfl (k_size X.1 hls) cmJx4a65c_size_8abf5 ml_X6_67 rfl hls.1 rfl rfl (Nat.le_of_ble_eq_true rfl) ⟨Nat.le_of_ble_eq_true rfl, Nat.le_of_ble_eq_true rfl⟩ (aw_rs ?_)
  refine aw_iconst X (1) dX6_mixPersons_14 (by decide) rfl ?_
  refine aw_isub X dX6_mixPersons_15 rfl ?_
  refine aw_callV X dX6_mixPersons_16 rfl (k_knX X.1 w0) cmX3_knowersBehind ml_X6_292 rfl hpl rfl rfl (Nat.le_of_ble_eq_true rfl) ⟨Nat.le_of_ble_eq_true rfl, Nat.le_of_ble_eq_true rfl⟩ (aw_rs ?_)
  refine aw_ist3 X dX6_mixPersons_19 rfl (by decide) rfl ?_
  refine aw_lld1 X dX6_mixPersons_20 rfl ?_
  refine aw_lst4 X dX6_mixPersons_21 rfl (by decide) rfl ?_
  refine aw_iconst X (0) dX6_mixPersons_23 (by decide) rfl ?_
  refine aw_ist6 X dX6_mixPersons_24 rfl (by decide) rfl ?_
  refine aw_dn (n := σ.np) (A := fun j k => ∀ (x : Int32), ∀ (u : Int64), (x = nI k) → (u = fo (fun k u => L31 u (bI (holdsP (knS σ (nI σ.ns - 1)) (nI k)))) d k) → AW p l e _ s m _ below meth c _ s0 G 7 tg _ h _ _ 26 [some (.ref ke), some (.long d), none, some (.int (knS σ (nI σ.ns - 1))), some (.long u), none, some (.int x)] []) ?_ ?_ σ.np 0 rfl 0 d nI_0.symm rfl
  · intro x u hx hI
    refine aw_ild6 X dX6_mixPersons_26 rfl ?_
    refine aw_ald0 X dX6_mixPersons_28 rfl ?_
    refine aw_get X fd_X6_10 dX6_mixPersons_29 rfl hke rfl ?_
    refine aw_get X fd_X6_63 dX6_mixPersons_32 rfl hpl rfl ?_
    refine aw_callV X dX6_mixPersons_35 rfl (k_size X.1 hlp) cmJx4a65c_size_8abf5 ml_X6_67 rfl hlp.1 rfl rfl (Nat.le_of_ble_eq_true rfl) ⟨Nat.le_of_ble_eq_true rfl, Nat.le_of_ble_eq_true rfl⟩ (aw_rs ?_)
    refine aw_icmp_ge (n2 := 68) X dX6_mixPersons_38 rfl rfl (fun c38 => ?_) (fun c38 => absurd (ge_t hx (Nat.le_refl _) (by omega)) c38)
    refine aw_lld4 X dX6_mixPersons_68 rfl ?_
    exact aw_lret X hret dX6_mixPersons_70 (⟨by rw [hI]; rfl, rfl⟩)
  · intro j k hjk ih x u hx hI
    refine aw_ild6 X dX6_mixPersons_26 rfl ?_
    refine aw_ald0 X dX6_mixPersons_28 rfl ?_
    refine aw_get X fd_X6_10 dX6_mixPersons_29 rfl hke rfl ?_
    refine aw_get X fd_X6_63 dX6_mixPersons_32 rfl hpl rfl ?_
    refine aw_callV X dX6_mixPersons_35 rfl (k_size X.1 hlp) cmJx4a65c_size_8abf5 ml_X6_67 rfl hlp.1 rfl rfl (Nat.le_of_ble_eq_true rfl) ⟨Nat.le_of_ble_eq_true rfl, Nat.le_of_ble_eq_true rfl⟩ (aw_rs ?_)
    refine aw_icmp_ge (n2 := 68) X dX6_mixPersons_38 rfl rfl (fun c38 => absurd c38 (ge_f hx (by omega) (by omega))) (fun c38 => ?_)
    refine aw_lld4 X dX6_mixPersons_41 rfl ?_
    refine aw_ild3 X dX6_mixPersons_43 rfl ?_
    refine aw_ild6 X dX6_mixPersons_44 rfl ?_
    refine aw_callS X dX6_mixPersons_46 rfl (k_X6_holds X.1 _ _) cmX6_holds ml_X6_260 rfl rfl (Nat.le_of_ble_eq_true rfl) ⟨Nat.le_of_ble_eq_true rfl, Nat.le_of_ble_eq_true rfl⟩ (aw_rs ?_)
    refine aw_if_eq (n2 := 56) X dX6_mixPersons_49 rfl rfl (fun c49 => ?_) (fun c49 => ?_)
    · refine aw_lconst X (0) dX6_mixPersons_56 (by decide) rfl ?_
      refine aw_callS X dX6_mixPersons_57 rfl (k_X6_mix X.1 _ _) cmX6_mix ml_X6_332 rfl rfl (Nat.le_of_ble_eq_true rfl) ⟨Nat.le_of_ble_eq_true rfl, Nat.le_of_ble_eq_true rfl⟩ (aw_rs ?_)
      refine aw_lst4 X dX6_mixPersons_60 rfl (by decide) rfl ?_
      refine aw_iinc6 X (1) dX6_mixPersons_62 (by decide) rfl (by decide) rfl ?_
      refine aw_goto (n := 26) X dX6_mixPersons_65 rfl ?_
      exact ih (x + 1) _ (nx hx) (by rw [hI]; show _ = L31 _ (bI (holdsP (knS σ (nI σ.ns - 1)) (nI k))); rw [bI_f (by rw [← hx]; exact bI_n c49)]; rfl)
    · refine aw_lconst X (1) dX6_mixPersons_52 (by decide) rfl ?_
      refine aw_goto (n := 57) X dX6_mixPersons_53 rfl ?_
      refine aw_callS X dX6_mixPersons_57 rfl (k_X6_mix X.1 _ _) cmX6_mix ml_X6_332 rfl rfl (Nat.le_of_ble_eq_true rfl) ⟨Nat.le_of_ble_eq_true rfl, Nat.le_of_ble_eq_true rfl⟩ (aw_rs ?_)
      refine aw_lst4 X dX6_mixPersons_60 rfl (by decide) rfl ?_
      refine aw_iinc6 X (1) dX6_mixPersons_62 (by decide) rfl (by decide) rfl ?_
      refine aw_goto (n := 26) X dX6_mixPersons_65 rfl ?_
      exact ih (x + 1) _ (nx hx) (by rw [hI]; show _ = L31 _ (bI (holdsP (knS σ (nI σ.ns - 1)) (nI k))); rw [bI_t (by rw [← hx]; exact bI_y c49)]; rfl)

def fwS2 (σ : NS) (d : Int64) (n : Nat) : Int64 := fo (fun k u => L31 (fo (fun q u => L31 u (fvl (σ.F k) σ.di σ.sw (nI q))) u 8) (llf (σ.F k) σ.di 60)) d n

set_option maxHeartbeats 4000000 in
set_option maxRecDepth 100000 in
theorem k_X6_mixFigures {l : Launch} {s0 : State} {a0 : Array Value} {G : GG} (X : CX l s0 a0 G) {h : AH} {tg ke : Nat} {A : KA} {σ : NS} (w : KelW G h tg ke A σ) (d : Int64)  : Con l s0 G yX6_mixFigures cX6_mixFigures 8 (some .long) 3 0 0 tg [.ref ke, .long d] h (RS (.long (fwS σ d)) h) := by
  refine Con.of X (by decide +kernel) [some (.ref ke), some (.long d), none, none, none, none, none, none] rfl (Nat.le_of_ble_eq_true rfl) (fun p e s m below meth c X hnm hret => ?_)
  have w0 := w
  obtain ⟨hke, hpw, hsw, hoc, hd1, hd2, hd3, hd4⟩ := w
  have hpl := hpw.1
  have hlp := hpw.2.1
  have hls := hpw.2.2.1
  have hP := hpw.2.2.2.1
  have hS := hpw.2.2.2.2.1
  have hn8 := hpw.2.2.2.2.2.1
  have hn10 := hpw.2.2.2.2.2.2.1
  have hsc := hsw.1
  have hlf := hsw.2.1
  have hF := hsw.2.2.1
  have hn12 := hsw.2.2.2.1
  refine aw_lld1 X dX6_mixFigures_0 rfl ?_
  refine aw_lst3 X dX6_mixFigures_1 rfl (by decide) rfl ?_
  refine aw_iconst X (0) dX6_mixFigures_2 (by decide) rfl ?_
  refine aw_ist5 X dX6_mixFigures_3 rfl (by decide) rfl ?_
  refine aw_dn (n := σ.nf) (A := fun j k => ∀ (y6 : Option Value), ∀ (y7 : Option Value), ∀ (x : Int32), ∀ (u : Int64), (x = nI k) → (u = fwS2 σ d k) → AW p l e _ s m _ below meth c _ s0 G 8 tg _ h _ _ 5 [some (.ref ke), some (.long d), none, some (.long u), none, some (.int x), y6, y7] []) ?_ ?_ σ.nf 0 rfl none none 0 d nI_0.symm rfl
  · intro y6 y7 x u hx hI
    refine aw_ild5 X dX6_mixFigures_5 rfl ?_
    refine aw_ald0 X dX6_mixFigures_7 rfl ?_
    refine aw_get X fd_X6_19 dX6_mixFigures_8 rfl hke rfl ?_
    refine aw_get X fd_X6_98 dX6_mixFigures_11 rfl hsc rfl ?_
    refine aw_callV X dX6_mixFigures_14 rfl (k_size X.1 hlf) cmJx4a65c_size_8abf5 ml_X6_67 rfl hlf.1 rfl rfl (Nat.le_of_ble_eq_true rfl) ⟨Nat.le_of_ble_eq_true rfl, Nat.le_of_ble_eq_true rfl⟩ (aw_rs ?_)
    refine aw_icmp_ge (n2 := 93) X dX6_mixFigures_17 rfl rfl (fun c17 => ?_) (fun c17 => absurd (ge_t hx (Nat.le_refl _) (by omega)) c17)
    refine aw_lld3 X dX6_mixFigures_93 rfl ?_
    exact aw_lret X hret dX6_mixFigures_94 (⟨by rw [hI]; rfl, rfl⟩)
  · intro j k hjk ih y6 y7 x u hx hI
    refine aw_ild5 X dX6_mixFigures_5 rfl ?_
    refine aw_ald0 X dX6_mixFigures_7 rfl ?_
    refine aw_get X fd_X6_19 dX6_mixFigures_8 rfl hke rfl ?_
    refine aw_get X fd_X6_98 dX6_mixFigures_11 rfl hsc rfl ?_
    refine aw_callV X dX6_mixFigures_14 rfl (k_size X.1 hlf) cmJx4a65c_size_8abf5 ml_X6_67 rfl hlf.1 rfl rfl (Nat.le_of_ble_eq_true rfl) ⟨Nat.le_of_ble_eq_true rfl, Nat.le_of_ble_eq_true rfl⟩ (aw_rs ?_)
    refine aw_icmp_ge (n2 := 93) X dX6_mixFigures_17 rfl rfl (fun c17 => absurd c17 (ge_f hx (by omega) (by omega))) (fun c17 => ?_)
    refine aw_ald0 X dX6_mixFigures_20 rfl ?_
    refine aw_get X fd_X6_19 dX6_mixFigures_21 rfl hke rfl ?_
    refine aw_get X fd_X6_98 dX6_mixFigures_24 rfl hsc rfl ?_
    refine aw_ild5 X dX6_mixFigures_27 rfl ?_
    refine aw_callV X dX6_mixFigures_29 rfl (k_lget X.1 hlf hx (by omega) (hF k (by omega)).1) cmJx4a65c_get_915e3 ml_X6_105 rfl hlf.1 rfl rfl (Nat.le_of_ble_eq_true rfl) ⟨Nat.le_of_ble_eq_true rfl, Nat.le_of_ble_eq_true rfl⟩ (aw_rs ?_)
    refine aw_cast X dX6_mixFigures_32 rfl rfl cc_X6_103 (hF k (by omega)).2 ?_
    refine aw_ast6 X dX6_mixFigures_35 rfl (by decide) rfl ?_
    refine aw_iconst X (0) dX6_mixFigures_37 (by decide) rfl ?_
    refine aw_ist7 X dX6_mixFigures_38 rfl (by decide) rfl ?_
    refine aw_dn (n := 8) (A := fun j2 t => ∀ (x2 : Int32), ∀ (u2 : Int64), (x2 = nI t) → (u2 = fo (fun q u => L31 u (fvl (σ.F k) σ.di σ.sw (nI q))) u t) → AW p l e _ s m _ below meth c _ s0 G 8 tg _ h _ _ 40 [some (.ref ke), some (.long d), none, some (.long u2), none, some (.int x), some (.ref (A.fa k)), some (.int x2)] []) ?_ ?_ 8 0 rfl 0 u nI_0.symm rfl
    · intro x2 u2 hx2 hI2
      refine aw_ild7 X dX6_mixFigures_40 rfl ?_
      refine aw_bipush X (7) dX6_mixFigures_42 (by decide) rfl ?_
      skip
      refine aw_icmp_gt (n2 := 70) X dX6_mixFigures_44 rfl rfl (fun c44 => ?_) (fun c44 => absurd (by rw [hx2]; decide) c44)
      refine aw_lld3 X dX6_mixFigures_70 rfl ?_
      refine aw_ald0 X dX6_mixFigures_71 rfl ?_
      refine aw_get X fd_X6_19 dX6_mixFigures_72 rfl hke rfl ?_
      refine aw_ald6 X dX6_mixFigures_75 rfl ?_
      refine aw_bipush X (60) dX6_mixFigures_77 (by decide) rfl ?_
      refine aw_callV X dX6_mixFigures_79 rfl (k_X5_leastLift X.1 hsw 60 (hF k (by omega)).2) cmX5_leastLift ml_X6_324 rfl hsc rfl rfl (Nat.le_of_ble_eq_true rfl) ⟨Nat.le_of_ble_eq_true rfl, Nat.le_of_ble_eq_true rfl⟩ (aw_rs ?_)
      refine aw_i2l X dX6_mixFigures_82 rfl ?_
      refine aw_callS X dX6_mixFigures_83 rfl (k_X6_mix X.1 _ _) cmX6_mix ml_X6_332 rfl rfl (Nat.le_of_ble_eq_true rfl) ⟨Nat.le_of_ble_eq_true rfl, Nat.le_of_ble_eq_true rfl⟩ (aw_rs ?_)
      refine aw_lst3 X dX6_mixFigures_86 rfl (by decide) rfl ?_
      refine aw_iinc5 X (1) dX6_mixFigures_87 (by decide) rfl (by decide) rfl ?_
      refine aw_goto (n := 5) X dX6_mixFigures_90 rfl ?_
      exact ih _ _ (x + 1) _ (nx hx) (by rw [hI2, hI]; rfl)
    · intro j2 t hjt ih2 x2 u2 hx2 hI2
      refine aw_ild7 X dX6_mixFigures_40 rfl ?_
      refine aw_bipush X (7) dX6_mixFigures_42 (by decide) rfl ?_
      refine aw_icmp_gt (n2 := 70) X dX6_mixFigures_44 rfl rfl (fun c44 => absurd c44 (by rw [hx2]; exact (show ¬ nI 7 < nI t from nI_nlt (by omega) (by decide)))) (fun c44 => ?_)
      refine aw_lld3 X dX6_mixFigures_47 rfl ?_
      refine aw_ald0 X dX6_mixFigures_48 rfl ?_
      refine aw_get X fd_X6_19 dX6_mixFigures_49 rfl hke rfl ?_
      refine aw_ald6 X dX6_mixFigures_52 rfl ?_
      refine aw_ild7 X dX6_mixFigures_54 rfl ?_
      refine aw_callV X dX6_mixFigures_56 rfl (k_X5_figureValue X.1 hsw (hF k (by omega)).2 x2) cmX5_figureValue ml_X6_297 rfl hsc rfl rfl (Nat.le_of_ble_eq_true rfl) ⟨Nat.le_of_ble_eq_true rfl, Nat.le_of_ble_eq_true rfl⟩ (aw_rs ?_)
      refine aw_i2l X dX6_mixFigures_59 rfl ?_
      refine aw_callS X dX6_mixFigures_60 rfl (k_X6_mix X.1 _ _) cmX6_mix ml_X6_332 rfl rfl (Nat.le_of_ble_eq_true rfl) ⟨Nat.le_of_ble_eq_true rfl, Nat.le_of_ble_eq_true rfl⟩ (aw_rs ?_)
      refine aw_lst3 X dX6_mixFigures_63 rfl (by decide) rfl ?_
      refine aw_iinc7 X (1) dX6_mixFigures_64 (by decide) rfl (by decide) rfl ?_
      refine aw_goto (n := 40) X dX6_mixFigures_67 rfl ?_
      exact ih2 (x2 + 1) _ (nx hx2) (by rw [hI2, hx2]; rfl)

def swS3 (σ : NS) (d : Int64) (n : Nat) : Int64 := fo (fun k u => fo (fun q u => L31 u (svl (σ.S k) (rX σ.S (cbS σ) (kfS σ.P σ.np) k) (nI q))) u 9) d n

set_option maxHeartbeats 4000000 in
set_option maxRecDepth 100000 in
theorem k_X6_mixScenes {l : Launch} {s0 : State} {a0 : Array Value} {G : GG} (X : CX l s0 a0 G) {h : AH} {tg ke : Nat} {A : KA} {σ : NS} (w : KelW G h tg ke A σ) (d : Int64)  : Con l s0 G yX6_mixScenes cX6_mixScenes 7 (some .long) 3 0 0 tg [.ref ke, .long d] h (RS (.long (swS2 σ d)) h) := by
  refine Con.of X (by decide +kernel) [some (.ref ke), some (.long d), none, none, none, none, none] rfl (Nat.le_of_ble_eq_true rfl) (fun p e s m below meth c X hnm hret => ?_)
  have w0 := w
  obtain ⟨hke, hpw, hsw, hoc, hd1, hd2, hd3, hd4⟩ := w
  have hpl := hpw.1
  have hlp := hpw.2.1
  have hls := hpw.2.2.1
  have hP := hpw.2.2.2.1
  have hS := hpw.2.2.2.2.1
  have hn8 := hpw.2.2.2.2.2.1
  have hn10 := hpw.2.2.2.2.2.2.1
  have hsc := hsw.1
  have hlf := hsw.2.1
  have hF := hsw.2.2.1
  have hn12 := hsw.2.2.2.1
  refine aw_lld1 X dX6_mixScenes_0 rfl ?_
  refine aw_lst3 X dX6_mixScenes_1 rfl (by decide) rfl ?_
  refine aw_iconst X (0) dX6_mixScenes_2 (by decide) rfl ?_
  refine aw_ist5 X dX6_mixScenes_3 rfl (by decide) rfl ?_
  refine aw_dn (n := σ.ns) (A := fun j k => ∀ (y6 : Option Value), ∀ (x : Int32), ∀ (u : Int64), (x = nI k) → (u = swS3 σ d k) → AW p l e _ s m _ below meth c _ s0 G 7 tg _ h _ _ 5 [some (.ref ke), some (.long d), none, some (.long u), none, some (.int x), y6] []) ?_ ?_ σ.ns 0 rfl none 0 d nI_0.symm rfl
  · intro y6 x u hx hI
    refine aw_ild5 X dX6_mixScenes_5 rfl ?_
    refine aw_ald0 X dX6_mixScenes_7 rfl ?_
    refine aw_get X fd_X6_10 dX6_mixScenes_8 rfl hke rfl ?_
    refine aw_get X fd_X6_131 dX6_mixScenes_11 rfl hpl rfl ?_
    refine aw_callV X dX6_mixScenes_14 rfl (k_size X.1 hls) cmJx4a65c_size_8abf5 ml_X6_67 rfl hls.1 rfl rfl (Nat.le_of_ble_eq_true rfl) ⟨Nat.le_of_ble_eq_true rfl, Nat.le_of_ble_eq_true rfl⟩ (aw_rs ?_)
    refine aw_icmp_ge (n2 := 68) X dX6_mixScenes_17 rfl rfl (fun c17 => ?_) (fun c17 => absurd (ge_t hx (Nat.le_refl _) (by omega)) c17)
    refine aw_lld3 X dX6_mixScenes_68 rfl ?_
    exact aw_lret X hret dX6_mixScenes_69 (⟨by rw [hI]; rfl, rfl⟩)
  · intro j k hjk ih y6 x u hx hI
    refine aw_ild5 X dX6_mixScenes_5 rfl ?_
    refine aw_ald0 X dX6_mixScenes_7 rfl ?_
    refine aw_get X fd_X6_10 dX6_mixScenes_8 rfl hke rfl ?_
    refine aw_get X fd_X6_131 dX6_mixScenes_11 rfl hpl rfl ?_
    refine aw_callV X dX6_mixScenes_14 rfl (k_size X.1 hls) cmJx4a65c_size_8abf5 ml_X6_67 rfl hls.1 rfl rfl (Nat.le_of_ble_eq_true rfl) ⟨Nat.le_of_ble_eq_true rfl, Nat.le_of_ble_eq_true rfl⟩ (aw_rs ?_)
    refine aw_icmp_ge (n2 := 68) X dX6_mixScenes_17 rfl rfl (fun c17 => absurd c17 (ge_f hx (by omega) (by omega))) (fun c17 => ?_)
    refine aw_iconst X (0) dX6_mixScenes_20 (by decide) rfl ?_
    refine aw_ist6 X dX6_mixScenes_21 rfl (by decide) rfl ?_
    refine aw_dn (n := 9) (A := fun j2 t => ∀ (x2 : Int32), ∀ (u2 : Int64), (x2 = nI t) → (u2 = fo (fun q u => L31 u (svl (σ.S k) (rX σ.S (cbS σ) (kfS σ.P σ.np) k) (nI q))) u t) → AW p l e _ s m _ below meth c _ s0 G 7 tg _ h _ _ 23 [some (.ref ke), some (.long d), none, some (.long u2), none, some (.int x), some (.int x2)] []) ?_ ?_ 9 0 rfl 0 u nI_0.symm rfl
    · intro x2 u2 hx2 hI2
      refine aw_ild6 X dX6_mixScenes_23 rfl ?_
      refine aw_bipush X (8) dX6_mixScenes_25 (by decide) rfl ?_
      refine aw_icmp_gt (n2 := 62) X dX6_mixScenes_27 rfl rfl (fun c27 => ?_) (fun c27 => absurd (by rw [hx2]; decide) c27)
      refine aw_iinc5 X (1) dX6_mixScenes_62 (by decide) rfl (by decide) rfl ?_
      refine aw_goto (n := 5) X dX6_mixScenes_65 rfl ?_
      exact ih _ (x + 1) _ (nx hx) (by rw [hI2, hI]; rfl)
    · intro j2 t hjt ih2 x2 u2 hx2 hI2
      refine aw_ild6 X dX6_mixScenes_23 rfl ?_
      refine aw_bipush X (8) dX6_mixScenes_25 (by decide) rfl ?_
      refine aw_icmp_gt (n2 := 62) X dX6_mixScenes_27 rfl rfl (fun c27 => absurd c27 (by rw [hx2]; exact (show ¬ nI 8 < nI t from nI_nlt (by omega) (by decide)))) (fun c27 => ?_)
      refine aw_lld3 X dX6_mixScenes_30 rfl ?_
      refine aw_ald0 X dX6_mixScenes_31 rfl ?_
      refine aw_get X fd_X6_10 dX6_mixScenes_32 rfl hke rfl ?_
      refine aw_get X fd_X6_131 dX6_mixScenes_35 rfl hpl rfl ?_
      refine aw_ild5 X dX6_mixScenes_38 rfl ?_
      refine aw_callV X dX6_mixScenes_40 rfl (k_lget X.1 hls hx (by omega) (hS k (by omega)).1) cmJx4a65c_get_915e3 ml_X6_105 rfl hls.1 rfl rfl (Nat.le_of_ble_eq_true rfl) ⟨Nat.le_of_ble_eq_true rfl, Nat.le_of_ble_eq_true rfl⟩ (aw_rs ?_)
      refine aw_cast X dX6_mixScenes_43 rfl rfl cc_X6_147 (hS k (by omega)).2 ?_
      refine aw_ild6 X dX6_mixScenes_46 rfl ?_
      refine aw_callV X dX6_mixScenes_48 rfl (k_X4_value X.1 (hS k (by omega)).2 x2) cmX4_value ml_X6_302 rfl (hS k (by omega)).2 rfl rfl (Nat.le_of_ble_eq_true rfl) ⟨Nat.le_of_ble_eq_true rfl, Nat.le_of_ble_eq_true rfl⟩ (aw_rs ?_)
      refine aw_i2l X dX6_mixScenes_51 rfl ?_
      refine aw_callS X dX6_mixScenes_52 rfl (k_X6_mix X.1 _ _) cmX6_mix ml_X6_332 rfl rfl (Nat.le_of_ble_eq_true rfl) ⟨Nat.le_of_ble_eq_true rfl, Nat.le_of_ble_eq_true rfl⟩ (aw_rs ?_)
      refine aw_lst3 X dX6_mixScenes_55 rfl (by decide) rfl ?_
      refine aw_iinc6 X (1) dX6_mixScenes_56 (by decide) rfl (by decide) rfl ?_
      refine aw_goto (n := 23) X dX6_mixScenes_59 rfl ?_
      exact ih2 (x2 + 1) _ (nx hx2) (by rw [hI2, hx2]; rfl)

set_option maxHeartbeats 4000000 in
set_option maxRecDepth 100000 in
theorem k_X6_digest {l : Launch} {s0 : State} {a0 : Array Value} {G : GG} (X : CX l s0 a0 G) {h : AH} {tg ke : Nat} {A : KA} {σ : NS} (htg : tg ≠ 0) (w : KelW G h tg ke A σ)  : Con l s0 G yX6_digest cX6_digest 4 (some .long) 9 0 0 tg [.ref ke] h (fun r h2 => some (.long (dgS σ)) = r ∧ ∃ A2, KelW G h2 tg ke A2 σ) := by
  refine Con.of X (by decide +kernel) [some (.ref ke), none, none, none] rfl (Nat.le_of_ble_eq_true rfl) (fun p e s m below meth c X hnm hret => ?_)
  have w0 := w
  obtain ⟨hke, hpw, hsw, hoc, hd1, hd2, hd3, hd4⟩ := w
  have hpl := hpw.1
  have hlp := hpw.2.1
  have hls := hpw.2.2.1
  have hP := hpw.2.2.2.1
  have hS := hpw.2.2.2.2.1
  have hn8 := hpw.2.2.2.2.2.1
  have hn10 := hpw.2.2.2.2.2.2.1
  have hsc := hsw.1
  have hlf := hsw.2.1
  have hF := hsw.2.2.1
  have hn12 := hsw.2.2.2.1
  refine aw_ldc2 X (58227) dX6_digest_0 rfl co_X6_330 ?_
  refine aw_lst1 X dX6_digest_3 rfl (by decide) rfl ?_
  refine aw_iconst X (0) dX6_digest_4 (by decide) rfl ?_
  refine aw_ist3 X dX6_digest_5 rfl (by decide) rfl ?_
  refine aw_dn (n := 16) (A := fun j k => ∀ (x : Int32), ∀ (u : Int64), (x = nI k) → (u = fo (fun q u => L31 u (manS σ (nI q))) 58227 k) → AW p l e _ s m _ below meth c _ s0 G 4 tg _ h _ _ 6 [some (.ref ke), some (.long u), none, some (.int x)] []) ?_ ?_ 16 0 rfl 0 _ nI_0.symm rfl
  · intro x u hx hI
    subst hI
    refine aw_ild3 X dX6_digest_6 rfl ?_
    refine aw_bipush X (15) dX6_digest_7 (by decide) rfl ?_
    refine aw_icmp_gt (n2 := 29) X dX6_digest_9 rfl rfl (fun c9 => ?_) (fun c9 => absurd (by rw [hx]; decide) c9)
    refine aw_ald0 X dX6_digest_29 rfl ?_
    refine aw_lld1 X dX6_digest_30 rfl ?_
    refine aw_callV X dX6_digest_31 rfl (k_X6_mixPersons X.1 w0 _) cmX6_mixPersons ml_X6_336 rfl hke rfl rfl (Nat.le_of_ble_eq_true rfl) ⟨Nat.le_of_ble_eq_true rfl, Nat.le_of_ble_eq_true rfl⟩ (aw_rs ?_)
    refine aw_lst1 X dX6_digest_34 rfl (by decide) rfl ?_
    refine aw_ald0 X dX6_digest_35 rfl ?_
    refine aw_lld1 X dX6_digest_36 rfl ?_
    refine aw_callV X dX6_digest_37 rfl (k_X6_mixFigures X.1 w0 _) cmX6_mixFigures ml_X6_340 rfl hke rfl rfl (Nat.le_of_ble_eq_true rfl) ⟨Nat.le_of_ble_eq_true rfl, Nat.le_of_ble_eq_true rfl⟩ (aw_rs ?_)
    refine aw_lst1 X dX6_digest_40 rfl (by decide) rfl ?_
    refine aw_ald0 X dX6_digest_41 rfl ?_
    refine aw_lld1 X dX6_digest_42 rfl ?_
    refine aw_callV X dX6_digest_43 rfl (k_X6_mixScenes X.1 w0 _) cmX6_mixScenes ml_X6_343 rfl hke rfl rfl (Nat.le_of_ble_eq_true rfl) ⟨Nat.le_of_ble_eq_true rfl, Nat.le_of_ble_eq_true rfl⟩ (aw_rs ?_)
    refine aw_lst1 X dX6_digest_46 rfl (by decide) rfl ?_
    refine aw_iconst X (0) dX6_digest_47 (by decide) rfl ?_
    refine aw_ist3 X dX6_digest_48 rfl (by decide) rfl ?_
    refine aw_dn (n := 10) (A := fun j k => ∀ (x : Int32), ∀ (u : Int64), (x = nI k) → (u = fo (fun q u => L31 u (figAt σ.F σ.nf (nI q))) (swS2 σ (fwS σ (pwS σ (fo (fun q u => L31 u (manS σ (nI q))) 58227 16)))) k) → AW p l e _ s m _ below meth c _ s0 G 4 tg _ h _ _ 49 [some (.ref ke), some (.long u), none, some (.int x)] []) ?_ ?_ 10 0 rfl 0 _ nI_0.symm rfl
    · intro x u hx hI
      subst hI
      refine aw_ild3 X dX6_digest_49 rfl ?_
      refine aw_bipush X (9) dX6_digest_50 (by decide) rfl ?_
      refine aw_icmp_gt (n2 := 75) X dX6_digest_52 rfl rfl (fun c52 => ?_) (fun c52 => absurd (by rw [hx]; decide) c52)
      refine aw_iconst X (0) dX6_digest_75 (by decide) rfl ?_
      refine aw_ist3 X dX6_digest_76 rfl (by decide) rfl ?_
      refine aw_dn (n := 4) (A := fun j k => ∀ (x : Int32), ∀ (u : Int64), (x = nI k) → (u = fo (fun q u => L31 u (ovl σ.o (nI q))) (fo (fun q u => L31 u (figAt σ.F σ.nf (nI q))) (swS2 σ (fwS σ (pwS σ (fo (fun q u => L31 u (manS σ (nI q))) 58227 16)))) 10) k) → AW p l e _ s m _ below meth c _ s0 G 4 tg _ h _ _ 77 [some (.ref ke), some (.long u), none, some (.int x)] []) ?_ ?_ 4 0 rfl 0 _ nI_0.symm rfl
      · intro x u hx hI
        subst hI
        refine aw_ild3 X dX6_digest_77 rfl ?_
        refine aw_iconst X (3) dX6_digest_78 (by decide) rfl ?_
        refine aw_icmp_gt (n2 := 102) X dX6_digest_79 rfl rfl (fun c79 => ?_) (fun c79 => absurd (by rw [hx]; decide) c79)
        refine aw_lld1 X dX6_digest_102 rfl ?_
        refine aw_ald0 X dX6_digest_103 rfl ?_
        refine aw_get X fd_X6_26 dX6_digest_104 rfl hke rfl ?_
        refine aw_callV X dX6_digest_107 rfl (k_X1_minutesToGong X.1 hoc) cmX1_minutesToGong ml_X6_316 rfl hoc rfl rfl (Nat.le_of_ble_eq_true rfl) ⟨Nat.le_of_ble_eq_true rfl, Nat.le_of_ble_eq_true rfl⟩ (aw_rs ?_)
        refine aw_i2l X dX6_digest_110 rfl ?_
        refine aw_callS X dX6_digest_111 rfl (k_X6_mix X.1 _ _) cmX6_mix ml_X6_332 rfl rfl (Nat.le_of_ble_eq_true rfl) ⟨Nat.le_of_ble_eq_true rfl, Nat.le_of_ble_eq_true rfl⟩ (aw_rs ?_)
        refine aw_lst1 X dX6_digest_114 rfl (by decide) rfl ?_
        refine aw_lld1 X dX6_digest_115 rfl ?_
        refine aw_ald0 X dX6_digest_116 rfl ?_
        refine aw_get X fd_X6_10 dX6_digest_117 rfl hke rfl ?_
        refine aw_callV X dX6_digest_120 rfl (k_bestX X.1 htg w0) cmX3_bestExchange ml_X6_319 rfl hpl rfl rfl (Nat.le_of_ble_eq_true rfl) ⟨Nat.le_of_ble_eq_true rfl, Nat.le_of_ble_eq_true rfl⟩ (fun r h2 hq hf => ?_)
        obtain ⟨rfl, A2, hw2⟩ := hq
        refine aw_i2l X dX6_digest_123 rfl ?_
        refine aw_callS X dX6_digest_124 rfl (k_X6_mix X.1 _ _) cmX6_mix ml_X6_332 rfl rfl (Nat.le_of_ble_eq_true rfl) ⟨Nat.le_of_ble_eq_true rfl, Nat.le_of_ble_eq_true rfl⟩ (aw_rs ?_)
        refine aw_lst1 X dX6_digest_127 rfl (by decide) rfl ?_
        refine aw_lld1 X dX6_digest_128 rfl ?_
        refine aw_ald0 X dX6_digest_129 rfl ?_
        refine aw_get X fd_X6_19 dX6_digest_130 rfl hw2.1 rfl ?_
        refine aw_callV X dX6_digest_133 rfl (k_X5_gripableFigures X.1 hw2.2.2.1) cmX5_gripableFigures ml_X6_327 rfl hw2.2.2.1.1 rfl rfl (Nat.le_of_ble_eq_true rfl) ⟨Nat.le_of_ble_eq_true rfl, Nat.le_of_ble_eq_true rfl⟩ (aw_rs ?_)
        refine aw_i2l X dX6_digest_136 rfl ?_
        refine aw_callS X dX6_digest_137 rfl (k_X6_mix X.1 _ _) cmX6_mix ml_X6_332 rfl rfl (Nat.le_of_ble_eq_true rfl) ⟨Nat.le_of_ble_eq_true rfl, Nat.le_of_ble_eq_true rfl⟩ (aw_rs ?_)
        exact aw_lret X hret dX6_digest_140 (⟨rfl, A2, hw2⟩)
      · intro j k hjk ih x u hx hI
        refine aw_ild3 X dX6_digest_77 rfl ?_
        refine aw_iconst X (3) dX6_digest_78 (by decide) rfl ?_
        refine aw_icmp_gt (n2 := 102) X dX6_digest_79 rfl rfl (fun c79 => absurd c79 (by rw [hx]; exact (show ¬ nI 3 < nI k from nI_nlt (by omega) (by decide)))) (fun c79 => ?_)
        refine aw_lld1 X dX6_digest_82 rfl ?_
        refine aw_ald0 X dX6_digest_83 rfl ?_
        refine aw_get X fd_X6_26 dX6_digest_84 rfl hke rfl ?_
        refine aw_ild3 X dX6_digest_87 rfl ?_
        refine aw_callV X dX6_digest_88 rfl (k_X1_value X.1 hoc _) cmX1_value ml_X6_307 rfl hoc rfl rfl (Nat.le_of_ble_eq_true rfl) ⟨Nat.le_of_ble_eq_true rfl, Nat.le_of_ble_eq_true rfl⟩ (aw_rs ?_)
        refine aw_i2l X dX6_digest_91 rfl ?_
        refine aw_callS X dX6_digest_92 rfl (k_X6_mix X.1 _ _) cmX6_mix ml_X6_332 rfl rfl (Nat.le_of_ble_eq_true rfl) ⟨Nat.le_of_ble_eq_true rfl, Nat.le_of_ble_eq_true rfl⟩ (aw_rs ?_)
        refine aw_lst1 X dX6_digest_95 rfl (by decide) rfl ?_
        refine aw_iinc3 X (1) dX6_digest_96 (by decide) rfl (by decide) rfl ?_
        refine aw_goto (n := 77) X dX6_digest_99 rfl ?_
        exact ih (x + 1) _ (nx hx) (by rw [hI, hx]; rfl)
    · intro j k hjk ih x u hx hI
      refine aw_ild3 X dX6_digest_49 rfl ?_
      refine aw_bipush X (9) dX6_digest_50 (by decide) rfl ?_
      refine aw_icmp_gt (n2 := 75) X dX6_digest_52 rfl rfl (fun c52 => absurd c52 (by rw [hx]; exact (show ¬ nI 9 < nI k from nI_nlt (by omega) (by decide)))) (fun c52 => ?_)
      refine aw_lld1 X dX6_digest_55 rfl ?_
      refine aw_ald0 X dX6_digest_56 rfl ?_
      refine aw_get X fd_X6_19 dX6_digest_57 rfl hke rfl ?_
      refine aw_ild3 X dX6_digest_60 rfl ?_
      refine aw_callV X dX6_digest_61 rfl (k_figAt X.1 w0 _) cmX5_figureAt ml_X6_209 rfl hsc rfl rfl (Nat.le_of_ble_eq_true rfl) ⟨Nat.le_of_ble_eq_true rfl, Nat.le_of_ble_eq_true rfl⟩ (aw_rs ?_)
      refine aw_i2l X dX6_digest_64 rfl ?_
      refine aw_callS X dX6_digest_65 rfl (k_X6_mix X.1 _ _) cmX6_mix ml_X6_332 rfl rfl (Nat.le_of_ble_eq_true rfl) ⟨Nat.le_of_ble_eq_true rfl, Nat.le_of_ble_eq_true rfl⟩ (aw_rs ?_)
      refine aw_lst1 X dX6_digest_68 rfl (by decide) rfl ?_
      refine aw_iinc3 X (1) dX6_digest_69 (by decide) rfl (by decide) rfl ?_
      refine aw_goto (n := 49) X dX6_digest_72 rfl ?_
      exact ih (x + 1) _ (nx hx) (by rw [hI, hx]; rfl)
  · intro j k hjk ih x u hx hI
    refine aw_ild3 X dX6_digest_6 rfl ?_
    refine aw_bipush X (15) dX6_digest_7 (by decide) rfl ?_
    refine aw_icmp_gt (n2 := 29) X dX6_digest_9 rfl rfl (fun c9 => absurd c9 (by rw [hx]; exact (show ¬ nI 15 < nI k from nI_nlt (by omega) (by decide)))) (fun c9 => ?_)
    refine aw_lld1 X dX6_digest_12 rfl ?_
    refine aw_ald0 X dX6_digest_13 rfl ?_
    refine aw_ild3 X dX6_digest_14 rfl ?_
    refine aw_callV X dX6_digest_15 rfl (k_X6_nightValue X.1 w0 _) cmX6_nightValue ml_X6_310 rfl hke rfl rfl (Nat.le_of_ble_eq_true rfl) ⟨Nat.le_of_ble_eq_true rfl, Nat.le_of_ble_eq_true rfl⟩ (aw_rs ?_)
    refine aw_i2l X dX6_digest_18 rfl ?_
    refine aw_callS X dX6_digest_19 rfl (k_X6_mix X.1 _ _) cmX6_mix ml_X6_332 rfl rfl (Nat.le_of_ble_eq_true rfl) ⟨Nat.le_of_ble_eq_true rfl, Nat.le_of_ble_eq_true rfl⟩ (aw_rs ?_)
    refine aw_lst1 X dX6_digest_22 rfl (by decide) rfl ?_
    refine aw_iinc3 X (1) dX6_digest_23 (by decide) rfl (by decide) rfl ?_
    refine aw_goto (n := 6) X dX6_digest_26 rfl ?_
    exact ih (x + 1) _ (nx hx) (by rw [hI, hx]; rfl)

def ns0 : NS := (0, fun _ _ => 0, 0, fun _ _ => 0, 0, fun _ _ => 0, 50, 0, fun i => if i = 0 then -1 else 0, fun i => if i = 2 then 5 else if i = 3 then 20 else 0)
