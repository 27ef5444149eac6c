theorem k_on {l : Launch} {s0 : State} {a0 : Array Value} {G : GG} (X : CX l s0 a0 G) {h : AH} {tg ke : Nat} {A : KA} {σ : NS} (w : KelW G h tg ke A σ) : Con l s0 G yX3_sceneOn cX3_sceneOn 3 (some .int) 3 0 0 tg [.ref A.pl, .int σ.mi] h (RS (.int (onS σ)) h) := k_X3_sceneOn X w.2.1 σ.mi

theorem k_figAt {l : Launch} {s0 : State} {a0 : Array Value} {G : GG} (X : CX l s0 a0 G) {h : AH} {tg ke : Nat} {A : KA} {σ : NS} (w : KelW G h tg ke A σ) (pl : Int32) : Con l s0 G yX5_figureAt cX5_figureAt 4 (some .int) 3 0 0 tg [.ref A.sc, .int pl] h (RS (.int (figAt σ.F σ.nf pl)) h) := k_X5_figureAt X w.2.2.1 pl

set_option maxHeartbeats 4000000 in
set_option maxRecDepth 100000 in
theorem k_X6_isPerson {l : Launch} {s0 : State} {a0 : Array Value} {G : GG} (X : CX l s0 a0 G) {h : AH} {tg ke : Nat} {A : KA} {σ : NS} (w : KelW G h tg ke A σ) (x : Int32) : Con l s0 G yX6_isPerson cX6_isPerson 2 (some .boolean) 1 0 0 tg [.ref ke, .int x] h (RS (.int (bI (0 ≤ x ∧ x < nI σ.np))) h) := by
  refine Con.of X (by decide +kernel) [some (.ref ke), some (.int x)] rfl (Nat.le_of_ble_eq_true rfl) (fun p e s m below meth c X hnm hret => ?_)
  have w0 := w
  obtain ⟨hke, hpw, hsw, hoc, hd1, hd2, hd3, hd4⟩ := w
  have hpl := hpw.1
  have hlp := hpw.2.1
  have hls := hpw.2.2.1
  have hP := hpw.2.2.2.1
  have hS := hpw.2.2.2.2.1
  have hn8 := hpw.2.2.2.2.2.1
  have hn10 := hpw.2.2.2.2.2.2.1
  have hsc := hsw.1
  have hlf := hsw.2.1
  have hF := hsw.2.2.1
  have hn12 := hsw.2.2.2.1
  refine aw_ild1 X dX6_isPerson_0 rfl ?_
  refine aw_if_lt (n2 := 22) X dX6_isPerson_1 rfl rfl (fun c1 => ?_) (fun c1 => ?_)
  · refine aw_iconst X (0) dX6_isPerson_22 (by decide) rfl ?_
    exact aw_iret X hret rfl dX6_isPerson_23 (⟨congrArg (fun x => some (Value.int x)) (bI_f (fun q => Int32.not_le.mpr c1 q.1)), rfl⟩)
  · refine aw_ild1 X dX6_isPerson_4 rfl ?_
    refine aw_ald0 X dX6_isPerson_5 rfl ?_
    refine aw_get X fd_X6_10 dX6_isPerson_6 rfl hke rfl ?_
    refine aw_get X fd_X6_63 dX6_isPerson_9 rfl hpl rfl ?_
    refine aw_callV X dX6_isPerson_12 rfl (k_size X.1 hlp) cmJx4a65c_size_8abf5 ml_X6_67 rfl hlp.1 rfl rfl (Nat.le_of_ble_eq_true rfl) ⟨Nat.le_of_ble_eq_true rfl, Nat.le_of_ble_eq_true rfl⟩ (aw_rs ?_)
    refine aw_icmp_ge (n2 := 22) X dX6_isPerson_15 rfl rfl (fun c15 => ?_) (fun c15 => ?_)
    · refine aw_iconst X (0) dX6_isPerson_22 (by decide) rfl ?_
      exact aw_iret X hret rfl dX6_isPerson_23 (⟨congrArg (fun x => some (Value.int x)) (bI_f (fun q => Int32.not_lt.mpr c15 q.2)), rfl⟩)
    · refine aw_iconst X (1) dX6_isPerson_18 (by decide) rfl ?_
      refine aw_goto (n := 23) X dX6_isPerson_19 rfl ?_
      exact aw_iret X hret rfl dX6_isPerson_23 (⟨congrArg (fun x => some (Value.int x)) (bI_t ⟨Int32.not_lt.mp c1, Int32.not_le.mp c15⟩), rfl⟩)

set_option maxHeartbeats 4000000 in
set_option maxRecDepth 100000 in
theorem k_X6_isFigure {l : Launch} {s0 : State} {a0 : Array Value} {G : GG} (X : CX l s0 a0 G) {h : AH} {tg ke : Nat} {A : KA} {σ : NS} (w : KelW G h tg ke A σ) (x : Int32) : Con l s0 G yX6_isFigure cX6_isFigure 2 (some .boolean) 1 0 0 tg [.ref ke, .int x] h (RS (.int (bI (0 ≤ x ∧ x < nI σ.nf))) h) := by
  refine Con.of X (by decide +kernel) [some (.ref ke), some (.int x)] rfl (Nat.le_of_ble_eq_true rfl) (fun p e s m below meth c X hnm hret => ?_)
  have w0 := w
  obtain ⟨hke, hpw, hsw, hoc, hd1, hd2, hd3, hd4⟩ := w
  have hpl := hpw.1
  have hlp := hpw.2.1
  have hls := hpw.2.2.1
  have hP := hpw.2.2.2.1
  have hS := hpw.2.2.2.2.1
  have hn8 := hpw.2.2.2.2.2.1
  have hn10 := hpw.2.2.2.2.2.2.1
  have hsc := hsw.1
  have hlf := hsw.2.1
  have hF := hsw.2.2.1
  have hn12 := hsw.2.2.2.1
  refine aw_ild1 X dX6_isFigure_0 rfl ?_
  refine aw_if_lt (n2 := 22) X dX6_isFigure_1 rfl rfl (fun c1 => ?_) (fun c1 => ?_)
  · refine aw_iconst X (0) dX6_isFigure_22 (by decide) rfl ?_
    exact aw_iret X hret rfl dX6_isFigure_23 (⟨congrArg (fun x => some (Value.int x)) (bI_f (fun q => Int32.not_le.mpr c1 q.1)), rfl⟩)
  · refine aw_ild1 X dX6_isFigure_4 rfl ?_
    refine aw_ald0 X dX6_isFigure_5 rfl ?_
    refine aw_get X fd_X6_19 dX6_isFigure_6 rfl hke rfl ?_
    refine aw_get X fd_X6_98 dX6_isFigure_9 rfl hsc rfl ?_
    refine aw_callV X dX6_isFigure_12 rfl (k_size X.1 hlf) cmJx4a65c_size_8abf5 ml_X6_67 rfl hlf.1 rfl rfl (Nat.le_of_ble_eq_true rfl) ⟨Nat.le_of_ble_eq_true rfl, Nat.le_of_ble_eq_true rfl⟩ (aw_rs ?_)
    refine aw_icmp_ge (n2 := 22) X dX6_isFigure_15 rfl rfl (fun c15 => ?_) (fun c15 => ?_)
    · refine aw_iconst X (0) dX6_isFigure_22 (by decide) rfl ?_
      exact aw_iret X hret rfl dX6_isFigure_23 (⟨congrArg (fun x => some (Value.int x)) (bI_f (fun q => Int32.not_lt.mpr c15 q.2)), rfl⟩)
    · refine aw_iconst X (1) dX6_isFigure_18 (by decide) rfl ?_
      refine aw_goto (n := 23) X dX6_isFigure_19 rfl ?_
      exact aw_iret X hret rfl dX6_isFigure_23 (⟨congrArg (fun x => some (Value.int x)) (bI_t ⟨Int32.not_lt.mp c1, Int32.not_le.mp c15⟩), rfl⟩)

set_option maxHeartbeats 4000000 in
set_option maxRecDepth 100000 in
theorem k_X6_isScene {l : Launch} {s0 : State} {a0 : Array Value} {G : GG} (X : CX l s0 a0 G) {h : AH} {tg ke : Nat} {A : KA} {σ : NS} (w : KelW G h tg ke A σ) (x : Int32) : Con l s0 G yX6_isScene cX6_isScene 2 (some .boolean) 1 0 0 tg [.ref ke, .int x] h (RS (.int (bI (0 ≤ x ∧ x < nI σ.ns))) h) := by
  refine Con.of X (by decide +kernel) [some (.ref ke), some (.int x)] rfl (Nat.le_of_ble_eq_true rfl) (fun p e s m below meth c X hnm hret => ?_)
  have w0 := w
  obtain ⟨hke, hpw, hsw, hoc, hd1, hd2, hd3, hd4⟩ := w
  have hpl := hpw.1
  have hlp := hpw.2.1
  have hls := hpw.2.2.1
  have hP := hpw.2.2.2.1
  have hS := hpw.2.2.2.2.1
  have hn8 := hpw.2.2.2.2.2.1
  have hn10 := hpw.2.2.2.2.2.2.1
  have hsc := hsw.1
  have hlf := hsw.2.1
  have hF := hsw.2.2.1
  have hn12 := hsw.2.2.2.1
  refine aw_ild1 X dX6_isScene_0 rfl ?_
  refine aw_if_lt (n2 := 22) X dX6_isScene_1 rfl rfl (fun c1 => ?_) (fun c1 => ?_)
  · refine aw_iconst X (0) dX6_isScene_22 (by decide) rfl ?_
    exact aw_iret X hret rfl dX6_isScene_23 (⟨congrArg (fun x => some (Value.int x)) (bI_f (fun q => Int32.not_le.mpr c1 q.1)), rfl⟩)
  · refine aw_ild1 X dX6_isScene_4 rfl ?_
    refine aw_ald0 X dX6_isScene_5 rfl ?_
    refine aw_get X fd_X6_10 dX6_isScene_6 rfl hke rfl ?_
    refine aw_get X fd_X6_131 dX6_isScene_9 rfl hpl rfl ?_
    refine aw_callV X dX6_isScene_12 rfl (k_size X.1 hls) cmJx4a65c_size_8abf5 ml_X6_67 rfl hls.1 rfl rfl (Nat.le_of_ble_eq_true rfl) ⟨Nat.le_of_ble_eq_true rfl, Nat.le_of_ble_eq_true rfl⟩ (aw_rs ?_)
    refine aw_icmp_ge (n2 := 22) X dX6_isScene_15 rfl rfl (fun c15 => ?_) (fun c15 => ?_)
    · refine aw_iconst X (0) dX6_isScene_22 (by decide) rfl ?_
      exact aw_iret X hret rfl dX6_isScene_23 (⟨congrArg (fun x => some (Value.int x)) (bI_f (fun q => Int32.not_lt.mpr c15 q.2)), rfl⟩)
    · refine aw_iconst X (1) dX6_isScene_18 (by decide) rfl ?_
      refine aw_goto (n := 23) X dX6_isScene_19 rfl ?_
      exact aw_iret X hret rfl dX6_isScene_23 (⟨congrArg (fun x => some (Value.int x)) (bI_t ⟨Int32.not_lt.mp c1, Int32.not_le.mp c15⟩), rfl⟩)

set_option maxHeartbeats 4000000 in
set_option maxRecDepth 100000 in
theorem k_X6_strangers {l : Launch} {s0 : State} {a0 : Array Value} {G : GG} (X : CX l s0 a0 G) {h : AH} {tg ke : Nat} {A : KA} {σ : NS} (w : KelW G h tg ke A σ)  : Con l s0 G yX6_strangers cX6_strangers 3 (some .int) 4 0 0 tg [.ref ke] h (RS (.int (strS σ)) h) := by
  refine Con.of X (by decide +kernel) [some (.ref ke), none, none] rfl (Nat.le_of_ble_eq_true rfl) (fun p e s m below meth c X hnm hret => ?_)
  have w0 := w
  obtain ⟨hke, hpw, hsw, hoc, hd1, hd2, hd3, hd4⟩ := w
  have hpl := hpw.1
  have hlp := hpw.2.1
  have hls := hpw.2.2.1
  have hP := hpw.2.2.2.1
  have hS := hpw.2.2.2.2.1
  have hn8 := hpw.2.2.2.2.2.1
  have hn10 := hpw.2.2.2.2.2.2.1
  have hsc := hsw.1
  have hlf := hsw.2.1
  have hF := hsw.2.2.1
  have hn12 := hsw.2.2.2.1
  refine aw_ald0 X dX6_strangers_0 rfl ?_
  refine aw_get X fd_X6_10 dX6_strangers_1 rfl hke rfl ?_
  refine aw_ald0 X dX6_strangers_4 rfl ?_
  refine aw_get X fd_X6_30 dX6_strangers_5 rfl hke rfl ?_
  refine aw_callV X dX6_strangers_8 rfl (k_on X.1 w0) cmX3_sceneOn ml_X6_350 rfl hpl rfl rfl (Nat.le_of_ble_eq_true rfl) ⟨Nat.le_of_ble_eq_true rfl, Nat.le_of_ble_eq_true rfl⟩ (aw_rs ?_)
  refine aw_ist1 X dX6_strangers_11 rfl (by decide) rfl ?_
  refine aw_ild1 X dX6_strangers_12 rfl ?_
  refine aw_iconst X (-1) dX6_strangers_13 (by decide) rfl ?_
  refine aw_icmp_ne (n2 := 21) X dX6_strangers_14 rfl rfl (fun c14 => ?_) (fun c14 => ?_)
  · obtain ⟨k, hk, hon⟩ := (on_cases σ).resolve_left c14
    refine aw_ald0 X dX6_strangers_21 rfl ?_
    refine aw_get X fd_X6_10 dX6_strangers_22 rfl hke rfl ?_
    refine aw_get X fd_X6_131 dX6_strangers_25 rfl hpl rfl ?_
    refine aw_ild1 X dX6_strangers_28 rfl ?_
    refine aw_callV X dX6_strangers_29 rfl (k_lget X.1 hls hon hk (hS k hk).1) cmJx4a65c_get_915e3 ml_X6_105 rfl hls.1 rfl rfl (Nat.le_of_ble_eq_true rfl) ⟨Nat.le_of_ble_eq_true rfl, Nat.le_of_ble_eq_true rfl⟩ (aw_rs ?_)
    refine aw_cast X dX6_strangers_32 rfl rfl cc_X6_147 (hS k hk).2 ?_
    refine aw_get X fd_X6_356 dX6_strangers_35 rfl (hS k hk).2 rfl ?_
    refine aw_ist2 X dX6_strangers_38 rfl (by decide) rfl ?_
    refine aw_ald0 X dX6_strangers_39 rfl ?_
    refine aw_get X fd_X6_19 dX6_strangers_40 rfl hke rfl ?_
    refine aw_callV X dX6_strangers_43 rfl (k_X5_shownPersons X.1 hsw) cmX5_shownPersons ml_X6_257 rfl hsc rfl rfl (Nat.le_of_ble_eq_true rfl) ⟨Nat.le_of_ble_eq_true rfl, Nat.le_of_ble_eq_true rfl⟩ (aw_rs ?_)
    refine aw_ild2 X dX6_strangers_46 rfl ?_
    refine aw_iconst X (-1) dX6_strangers_47 (by decide) rfl ?_
    refine aw_ixor X dX6_strangers_48 rfl ?_
    refine aw_iand X dX6_strangers_49 rfl ?_
    exact aw_iret X hret rfl dX6_strangers_50 (⟨by unfold strS castOn; rw [if_neg c14, hon, iN_nI (by omega)], rfl⟩)
  · refine aw_iconst X (0) dX6_strangers_17 (by decide) rfl ?_
    refine aw_goto (n := 38) X dX6_strangers_18 rfl ?_
    refine aw_ist2 X dX6_strangers_38 rfl (by decide) rfl ?_
    refine aw_ald0 X dX6_strangers_39 rfl ?_
    refine aw_get X fd_X6_19 dX6_strangers_40 rfl hke rfl ?_
    refine aw_callV X dX6_strangers_43 rfl (k_X5_shownPersons X.1 hsw) cmX5_shownPersons ml_X6_257 rfl hsc rfl rfl (Nat.le_of_ble_eq_true rfl) ⟨Nat.le_of_ble_eq_true rfl, Nat.le_of_ble_eq_true rfl⟩ (aw_rs ?_)
    refine aw_ild2 X dX6_strangers_46 rfl ?_
    refine aw_iconst X (-1) dX6_strangers_47 (by decide) rfl ?_
    refine aw_ixor X dX6_strangers_48 rfl ?_
    refine aw_iand X dX6_strangers_49 rfl ?_
    exact aw_iret X hret rfl dX6_strangers_50 (⟨by unfold strS castOn; rw [if_pos c14], rfl⟩)

set_option maxHeartbeats 4000000 in
set_option maxRecDepth 100000 in
theorem k_X6_beginPiece {l : Launch} {s0 : State} {a0 : Array Value} {G : GG} (X : CX l s0 a0 G) {h : AH} {tg ke : Nat} {A : KA} {σ : NS} (htg : tg ≠ 0) (w : KelW G h tg ke A σ)  : Con l s0 G yX6_beginPiece cX6_beginPiece 2 (some .boolean) 4 0 0 tg [.ref ke] h (fun r h2 => ((onS σ = -1 ∨ ¬ σ.o 0 = -1) ∧ some (.int 0) = r ∧ h = h2) ∨ (¬ onS σ = -1 ∧ σ.o 0 = -1 ∧ some (.int 1) = r ∧ KelW G h2 tg ke A (σ.wO (obeg σ.o (σ.S (iN (onS σ)) 1))))) := by
  refine Con.of X (by decide +kernel) [some (.ref ke), none] rfl (Nat.le_of_ble_eq_true rfl) (fun p e s m below meth c X hnm hret => ?_)
  have w0 := w
  obtain ⟨hke, hpw, hsw, hoc, hd1, hd2, hd3, hd4⟩ := w
  have hpl := hpw.1
  have hlp := hpw.2.1
  have hls := hpw.2.2.1
  have hP := hpw.2.2.2.1
  have hS := hpw.2.2.2.2.1
  have hn8 := hpw.2.2.2.2.2.1
  have hn10 := hpw.2.2.2.2.2.2.1
  have hsc := hsw.1
  have hlf := hsw.2.1
  have hF := hsw.2.2.1
  have hn12 := hsw.2.2.2.1
  refine aw_ald0 X dX6_beginPiece_0 rfl ?_
  refine aw_get X fd_X6_10 dX6_beginPiece_1 rfl hke rfl ?_
  refine aw_ald0 X dX6_beginPiece_4 rfl ?_
  refine aw_get X fd_X6_30 dX6_beginPiece_5 rfl hke rfl ?_
  refine aw_callV X dX6_beginPiece_8 rfl (k_on X.1 w0) cmX3_sceneOn ml_X6_350 rfl hpl rfl rfl (Nat.le_of_ble_eq_true rfl) ⟨Nat.le_of_ble_eq_true rfl, Nat.le_of_ble_eq_true rfl⟩ (aw_rs ?_)
  refine aw_ist1 X dX6_beginPiece_11 rfl (by decide) rfl ?_
  refine aw_ild1 X dX6_beginPiece_12 rfl ?_
  refine aw_iconst X (-1) dX6_beginPiece_13 (by decide) rfl ?_
  refine aw_icmp_eq (n2 := 48) X dX6_beginPiece_14 rfl rfl (fun c14 => ?_) (fun c14 => ?_)
  · refine aw_iconst X (0) dX6_beginPiece_48 (by decide) rfl ?_
    exact aw_iret X hret rfl dX6_beginPiece_49 (Or.inl ⟨Or.inl c14, rfl, rfl⟩)
  · obtain ⟨k, hk, hon⟩ := (on_cases σ).resolve_left c14
    refine aw_ald0 X dX6_beginPiece_17 rfl ?_
    refine aw_get X fd_X6_26 dX6_beginPiece_18 rfl hke rfl ?_
    refine aw_ald0 X dX6_beginPiece_21 rfl ?_
    refine aw_get X fd_X6_10 dX6_beginPiece_22 rfl hke rfl ?_
    refine aw_get X fd_X6_131 dX6_beginPiece_25 rfl hpl rfl ?_
    refine aw_ild1 X dX6_beginPiece_28 rfl ?_
    refine aw_callV X dX6_beginPiece_29 rfl (k_lget X.1 hls hon hk (hS k hk).1) cmJx4a65c_get_915e3 ml_X6_105 rfl hls.1 rfl rfl (Nat.le_of_ble_eq_true rfl) ⟨Nat.le_of_ble_eq_true rfl, Nat.le_of_ble_eq_true rfl⟩ (aw_rs ?_)
    refine aw_cast X dX6_beginPiece_32 rfl rfl cc_X6_147 (hS k hk).2 ?_
    refine aw_get X fd_X6_359 dX6_beginPiece_35 rfl (hS k hk).2 rfl ?_
    refine aw_callV X dX6_beginPiece_38 rfl (k_X1_begin X.1 htg hoc (σ.S k 1)) cmX1_begin ml_X6_362 rfl hoc rfl rfl (Nat.le_of_ble_eq_true rfl) ⟨Nat.le_of_ble_eq_true rfl, Nat.le_of_ble_eq_true rfl⟩ (fun r h2 hq hf => ?_)
    rcases hq with ⟨e0, rfl, rfl⟩ | ⟨e0, rfl, rfl⟩
    · refine aw_if_eq (n2 := 48) X dX6_beginPiece_41 rfl rfl (fun c41 => absurd c41 (by decide)) (fun c41 => ?_)
      refine aw_iconst X (1) dX6_beginPiece_44 (by decide) rfl ?_
      refine aw_goto (n := 49) X dX6_beginPiece_45 rfl ?_
      exact aw_iret X hret rfl dX6_beginPiece_49 (Or.inr ⟨c14, e0, rfl, by rw [hon, iN_nI (by omega)]; exact w0.orc _⟩)
    refine aw_if_eq (n2 := 48) X dX6_beginPiece_41 rfl rfl (fun c41 => ?_) (fun c41 => absurd rfl c41)
    refine aw_iconst X (0) dX6_beginPiece_48 (by decide) rfl ?_
    exact aw_iret X hret rfl dX6_beginPiece_49 (Or.inl ⟨Or.inr e0, rfl, rfl⟩)

/-- what is asked of the night -/
def manS (σ : NS) (q : Int32) : Int32 := if q = 0 then σ.mi else if q = 1 then nI σ.np else if q = 2 then nI σ.nf else if q = 3 then nI σ.ns else if q = 4 then rB σ.S σ.ns else if q = 5 then rN σ.S (cbS σ) (kfS σ.P σ.np) σ.ns else if q = 6 then onS σ else if q = 7 then setF σ.F σ.nf else if q = 8 then strS σ else if q = 9 then σ.ti else if q = 10 then σ.be else if q = 11 then σ.ms else if q = 12 then σ.sl else if q = 13 then σ.off else if q = 14 then σ.o 4 else cntF σ.F σ.nf

set_option maxHeartbeats 4000000 in
set_option maxRecDepth 100000 in
theorem k_X6_nightValue {l : Launch} {s0 : State} {a0 : Array Value} {G : GG} (X : CX l s0 a0 G) {h : AH} {tg ke : Nat} {A : KA} {σ : NS} (w : KelW G h tg ke A σ) (q : Int32) : Con l s0 G yX6_nightValue cX6_nightValue 2 (some .int) 5 0 0 tg [.ref ke, .int q] h (RS (.int (manS σ q)) h) := by
  refine Con.of X (by decide +kernel) [some (.ref ke), some (.int q)] rfl (Nat.le_of_ble_eq_true rfl) (fun p e s m below meth c X hnm hret => ?_)
  have w0 := w
  obtain ⟨hke, hpw, hsw, hoc, hd1, hd2, hd3, hd4⟩ := w
  have hpl := hpw.1
  have hlp := hpw.2.1
  have hls := hpw.2.2.1
  have hP := hpw.2.2.2.1
  have hS := hpw.2.2.2.2.1
  have hn8 := hpw.2.2.2.2.2.1
  have hn10 := hpw.2.2.2.2.2.2.1
  have hsc := hsw.1
  have hlf := hsw.2.1
  have hF := hsw.2.2.1
  have hn12 := hsw.2.2.2.1
  refine aw_ild1 X dX6_nightValue_0 rfl ?_
  by_cases s1_0 : q = 0
  · refine aw_tswIn (n := 76) X 0 dX6_nightValue_1 (by rw [s1_0]; decide) (by decide) rfl rfl ?_
    refine aw_ald0 X dX6_nightValue_76 rfl ?_
    refine aw_get X fd_X6_30 dX6_nightValue_77 rfl hke rfl ?_
    exact aw_iret X hret rfl dX6_nightValue_80 (⟨by unfold manS; rw [if_pos s1_0], rfl⟩)
  · skip
    by_cases s1_1 : q = 1
    · refine aw_tswIn (n := 81) X 1 dX6_nightValue_1 (by rw [s1_1]; decide) (by decide) rfl rfl ?_
      refine aw_ald0 X dX6_nightValue_81 rfl ?_
      refine aw_get X fd_X6_10 dX6_nightValue_82 rfl hke rfl ?_
      refine aw_get X fd_X6_63 dX6_nightValue_85 rfl hpl rfl ?_
      refine aw_callV X dX6_nightValue_88 rfl (k_size X.1 hlp) cmJx4a65c_size_8abf5 ml_X6_67 rfl hlp.1 rfl rfl (Nat.le_of_ble_eq_true rfl) ⟨Nat.le_of_ble_eq_true rfl, Nat.le_of_ble_eq_true rfl⟩ (aw_rs ?_)
      exact aw_iret X hret rfl dX6_nightValue_91 (⟨by unfold manS; rw [if_neg s1_0, if_pos s1_1], rfl⟩)
    · skip
      by_cases s1_2 : q = 2
      · refine aw_tswIn (n := 92) X 2 dX6_nightValue_1 (by rw [s1_2]; decide) (by decide) rfl rfl ?_
        refine aw_ald0 X dX6_nightValue_92 rfl ?_
        refine aw_get X fd_X6_19 dX6_nightValue_93 rfl hke rfl ?_
        refine aw_get X fd_X6_98 dX6_nightValue_96 rfl hsc rfl ?_
        refine aw_callV X dX6_nightValue_99 rfl (k_size X.1 hlf) cmJx4a65c_size_8abf5 ml_X6_67 rfl hlf.1 rfl rfl (Nat.le_of_ble_eq_true rfl) ⟨Nat.le_of_ble_eq_true rfl, Nat.le_of_ble_eq_true rfl⟩ (aw_rs ?_)
        exact aw_iret X hret rfl dX6_nightValue_102 (⟨by unfold manS; rw [if_neg s1_0, if_neg s1_1, if_pos s1_2], rfl⟩)
      · skip
        by_cases s1_3 : q = 3
        · refine aw_tswIn (n := 103) X 3 dX6_nightValue_1 (by rw [s1_3]; decide) (by decide) rfl rfl ?_
          refine aw_ald0 X dX6_nightValue_103 rfl ?_
          refine aw_get X fd_X6_10 dX6_nightValue_104 rfl hke rfl ?_
          refine aw_get X fd_X6_131 dX6_nightValue_107 rfl hpl rfl ?_
          refine aw_callV X dX6_nightValue_110 rfl (k_size X.1 hls) cmJx4a65c_size_8abf5 ml_X6_67 rfl hls.1 rfl rfl (Nat.le_of_ble_eq_true rfl) ⟨Nat.le_of_ble_eq_true rfl, Nat.le_of_ble_eq_true rfl⟩ (aw_rs ?_)
          exact aw_iret X hret rfl dX6_nightValue_113 (⟨by unfold manS; rw [if_neg s1_0, if_neg s1_1, if_neg s1_2, if_pos s1_3], rfl⟩)
        · skip
          by_cases s1_4 : q = 4
          · refine aw_tswIn (n := 114) X 4 dX6_nightValue_1 (by rw [s1_4]; decide) (by decide) rfl rfl ?_
            refine aw_ald0 X dX6_nightValue_114 rfl ?_
            refine aw_get X fd_X6_10 dX6_nightValue_115 rfl hke rfl ?_
            refine aw_get X fd_X6_348 dX6_nightValue_118 rfl hpl rfl ?_
            exact aw_iret X hret rfl dX6_nightValue_121 (⟨by unfold manS; rw [if_neg s1_0, if_neg s1_1, if_neg s1_2, if_neg s1_3, if_pos s1_4], rfl⟩)
          · skip
            by_cases s1_5 : q = 5
            · refine aw_tswIn (n := 122) X 5 dX6_nightValue_1 (by rw [s1_5]; decide) (by decide) rfl rfl ?_
              refine aw_ald0 X dX6_nightValue_122 rfl ?_
              refine aw_get X fd_X6_10 dX6_nightValue_123 rfl hke rfl ?_
              refine aw_get X fd_X6_164 dX6_nightValue_126 rfl hpl rfl ?_
              exact aw_iret X hret rfl dX6_nightValue_129 (⟨by unfold manS; rw [if_neg s1_0, if_neg s1_1, if_neg s1_2, if_neg s1_3, if_neg s1_4, if_pos s1_5], rfl⟩)
            · skip
              by_cases s1_6 : q = 6
              · refine aw_tswIn (n := 130) X 6 dX6_nightValue_1 (by rw [s1_6]; decide) (by decide) rfl rfl ?_
                refine aw_ald0 X dX6_nightValue_130 rfl ?_
                refine aw_get X fd_X6_10 dX6_nightValue_131 rfl hke rfl ?_
                refine aw_ald0 X dX6_nightValue_134 rfl ?_
                refine aw_get X fd_X6_30 dX6_nightValue_135 rfl hke rfl ?_
                refine aw_callV X dX6_nightValue_138 rfl (k_on X.1 w0) cmX3_sceneOn ml_X6_350 rfl hpl rfl rfl (Nat.le_of_ble_eq_true rfl) ⟨Nat.le_of_ble_eq_true rfl, Nat.le_of_ble_eq_true rfl⟩ (aw_rs ?_)
                exact aw_iret X hret rfl dX6_nightValue_141 (⟨by unfold manS; rw [if_neg s1_0, if_neg s1_1, if_neg s1_2, if_neg s1_3, if_neg s1_4, if_neg s1_5, if_pos s1_6], rfl⟩)
              · skip
                by_cases s1_7 : q = 7
                · refine aw_tswIn (n := 142) X 7 dX6_nightValue_1 (by rw [s1_7]; decide) (by decide) rfl rfl ?_
                  refine aw_ald0 X dX6_nightValue_142 rfl ?_
                  refine aw_get X fd_X6_19 dX6_nightValue_143 rfl hke rfl ?_
                  refine aw_callV X dX6_nightValue_146 rfl (k_X5_shownPersons X.1 hsw) cmX5_shownPersons ml_X6_257 rfl hsc rfl rfl (Nat.le_of_ble_eq_true rfl) ⟨Nat.le_of_ble_eq_true rfl, Nat.le_of_ble_eq_true rfl⟩ (aw_rs ?_)
                  exact aw_iret X hret rfl dX6_nightValue_149 (⟨by unfold manS; rw [if_neg s1_0, if_neg s1_1, if_neg s1_2, if_neg s1_3, if_neg s1_4, if_neg s1_5, if_neg s1_6, if_pos s1_7], rfl⟩)
                · skip
                  by_cases s1_8 : q = 8
                  · refine aw_tswIn (n := 150) X 8 dX6_nightValue_1 (by rw [s1_8]; decide) (by decide) rfl rfl ?_
                    refine aw_ald0 X dX6_nightValue_150 rfl ?_
                    refine aw_callV X dX6_nightValue_151 rfl (k_X6_strangers X.1 w0) cmX6_strangers ml_X6_353 rfl hke rfl rfl (Nat.le_of_ble_eq_true rfl) ⟨Nat.le_of_ble_eq_true rfl, Nat.le_of_ble_eq_true rfl⟩ (aw_rs ?_)
                    exact aw_iret X hret rfl dX6_nightValue_154 (⟨by unfold manS; rw [if_neg s1_0, if_neg s1_1, if_neg s1_2, if_neg s1_3, if_neg s1_4, if_neg s1_5, if_neg s1_6, if_neg s1_7, if_pos s1_8], rfl⟩)
                  · skip
                    by_cases s1_9 : q = 9
                    · refine aw_tswIn (n := 155) X 9 dX6_nightValue_1 (by rw [s1_9]; decide) (by decide) rfl rfl ?_
                      refine aw_ald0 X dX6_nightValue_155 rfl ?_
                      refine aw_get X fd_X6_34 dX6_nightValue_156 rfl hke rfl ?_
                      exact aw_iret X hret rfl dX6_nightValue_159 (⟨by unfold manS; rw [if_neg s1_0, if_neg s1_1, if_neg s1_2, if_neg s1_3, if_neg s1_4, if_neg s1_5, if_neg s1_6, if_neg s1_7, if_neg s1_8, if_pos s1_9], rfl⟩)
                    · skip
                      by_cases s1_10 : q = 10
                      · refine aw_tswIn (n := 160) X 10 dX6_nightValue_1 (by rw [s1_10]; decide) (by decide) rfl rfl ?_
                        refine aw_ald0 X dX6_nightValue_160 rfl ?_
                        refine aw_get X fd_X6_40 dX6_nightValue_161 rfl hke rfl ?_
                        exact aw_iret X hret rfl dX6_nightValue_164 (⟨by unfold manS; rw [if_neg s1_0, if_neg s1_1, if_neg s1_2, if_neg s1_3, if_neg s1_4, if_neg s1_5, if_neg s1_6, if_neg s1_7, if_neg s1_8, if_neg s1_9, if_pos s1_10], rfl⟩)
                      · skip
                        by_cases s1_11 : q = 11
                        · refine aw_tswIn (n := 165) X 11 dX6_nightValue_1 (by rw [s1_11]; decide) (by decide) rfl rfl ?_
                          refine aw_ald0 X dX6_nightValue_165 rfl ?_
                          refine aw_get X fd_X6_43 dX6_nightValue_166 rfl hke rfl ?_
                          exact aw_iret X hret rfl dX6_nightValue_169 (⟨by unfold manS; rw [if_neg s1_0, if_neg s1_1, if_neg s1_2, if_neg s1_3, if_neg s1_4, if_neg s1_5, if_neg s1_6, if_neg s1_7, if_neg s1_8, if_neg s1_9, if_neg s1_10, if_pos s1_11], rfl⟩)
                        · skip
                          by_cases s1_12 : q = 12
                          · refine aw_tswIn (n := 170) X 12 dX6_nightValue_1 (by rw [s1_12]; decide) (by decide) rfl rfl ?_
                            refine aw_ald0 X dX6_nightValue_170 rfl ?_
                            refine aw_get X fd_X6_46 dX6_nightValue_171 rfl hke rfl ?_
                            exact aw_iret X hret rfl dX6_nightValue_174 (⟨by unfold manS; rw [if_neg s1_0, if_neg s1_1, if_neg s1_2, if_neg s1_3, if_neg s1_4, if_neg s1_5, if_neg s1_6, if_neg s1_7, if_neg s1_8, if_neg s1_9, if_neg s1_10, if_neg s1_11, if_pos s1_12], rfl⟩)
                          · skip
                            by_cases s1_13 : q = 13
                            · refine aw_tswIn (n := 175) X 13 dX6_nightValue_1 (by rw [s1_13]; decide) (by decide) rfl rfl ?_
                              refine aw_ald0 X dX6_nightValue_175 rfl ?_
                              refine aw_get X fd_X6_49 dX6_nightValue_176 rfl hke rfl ?_
                              exact aw_iret X hret rfl dX6_nightValue_179 (⟨by unfold manS; rw [if_neg s1_0, if_neg s1_1, if_neg s1_2, if_neg s1_3, if_neg s1_4, if_neg s1_5, if_neg s1_6, if_neg s1_7, if_neg s1_8, if_neg s1_9, if_neg s1_10, if_neg s1_11, if_neg s1_12, if_pos s1_13], rfl⟩)
                            · skip
                              by_cases s1_14 : q = 14
                              · refine aw_tswIn (n := 180) X 14 dX6_nightValue_1 (by rw [s1_14]; decide) (by decide) rfl rfl ?_
                                refine aw_ald0 X dX6_nightValue_180 rfl ?_
                                refine aw_get X fd_X6_26 dX6_nightValue_181 rfl hke rfl ?_
                                refine aw_get X fd_X6_287 dX6_nightValue_184 rfl hoc rfl ?_
                                exact aw_iret X hret rfl dX6_nightValue_187 (⟨by unfold manS; rw [if_neg s1_0, if_neg s1_1, if_neg s1_2, if_neg s1_3, if_neg s1_4, if_neg s1_5, if_neg s1_6, if_neg s1_7, if_neg s1_8, if_neg s1_9, if_neg s1_10, if_neg s1_11, if_neg s1_12, if_neg s1_13, if_pos s1_14], rfl⟩)
                              · skip
                                refine aw_tswOut (n := 188) X dX6_nightValue_1 (tsw_out (fun q h1 h2 e => by
                                  have hq : q = 0 ∨ q = 1 ∨ q = 2 ∨ q = 3 ∨ q = 4 ∨ q = 5 ∨ q = 6 ∨ q = 7 ∨ q = 8 ∨ q = 9 ∨ q = 10 ∨ q = 11 ∨ q = 12 ∨ q = 13 ∨ q = 14 := by omega
                                  rcases hq with rfl | rfl | rfl | rfl | rfl | rfl | rfl | rfl | rfl | rfl | rfl | rfl | rfl | rfl | rfl
                                  · exact s1_0 e
                                  · exact s1_1 e
                                  · exact s1_2 e
                                  · exact s1_3 e
                                  · exact s1_4 e
                                  · exact s1_5 e
                                  · exact s1_6 e
                                  · exact s1_7 e
                                  · exact s1_8 e
                                  · exact s1_9 e
                                  · exact s1_10 e
                                  · exact s1_11 e
                                  · exact s1_12 e
                                  · exact s1_13 e
                                  · exact s1_14 e)) rfl ?_
                                refine aw_ald0 X dX6_nightValue_188 rfl ?_
                                refine aw_get X fd_X6_19 dX6_nightValue_189 rfl hke rfl ?_
                                refine aw_callV X dX6_nightValue_192 rfl (k_X5_shownFigures X.1 hsw) cmX5_shownFigures ml_X6_244 rfl hsc rfl rfl (Nat.le_of_ble_eq_true rfl) ⟨Nat.le_of_ble_eq_true rfl, Nat.le_of_ble_eq_true rfl⟩ (aw_rs ?_)
                                exact aw_iret X hret rfl dX6_nightValue_195 (⟨by unfold manS; rw [if_neg s1_0, if_neg s1_1, if_neg s1_2, if_neg s1_3, if_neg s1_4, if_neg s1_5, if_neg s1_6, if_neg s1_7, if_neg s1_8, if_neg s1_9, if_neg s1_10, if_neg s1_11, if_neg s1_12, if_neg s1_13, if_neg s1_14], rfl⟩)
