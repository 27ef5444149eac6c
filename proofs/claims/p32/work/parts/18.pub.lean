/-! THE NIGHT'S LAWS: what each call answers (0 and the answer, or the number of the refusal) and the night behind it -/
abbrev Rs : Type := Nat × Int32 × NS
def PoN (G : GG) (tg ke : Nat) (R : Rs) : Option Value → AH → Prop := fun r h2 => R.1 = 0 ∧ some (.int R.2.1) = r ∧ ∃ A2, KelW G h2 tg ke A2 R.2.2
def PoX (h : AH) (σ : NS) (ex : List String) (R : Rs) : String → AH → Prop := fun E h2 => R.2.2 = σ ∧ R.1 ≠ 0 ∧ ex[R.1 - 1]? = some E ∧ h2 = h
theorem PoN.mk {G : GG} {h2 : AH} {tg ke : Nat} {A2 : KA} {R : Rs} {v : Int32} {σ2 : NS} (hR : R = (0, v, σ2)) (w : KelW G h2 tg ke A2 σ2) : PoN G tg ke R (some (.int v)) h2 := by
  subst hR
  exact ⟨rfl, rfl, A2, w⟩
theorem PoX.mk {h : AH} {σ : NS} {ex : List String} {R : Rs} {E : String} {k : Nat} (hR : R = (k + 1, 0, σ)) (he : ex[k]? = some E) : PoX h σ ex R E h := by
  subst hR
  exact ⟨rfl, Nat.succ_ne_zero k, he, rfl⟩
/-- an own number is another -/
abbrev NS.up (σ : NS) (k : Nat) (x : Int32) : NS := σ.wV (upd σ.v k x)
abbrev NS.fig (σ : NS) (k : Nat) (r : Nat → Int32) : NS := σ.wF σ.nf (upF σ.F k r)
abbrev NS.isP (σ : NS) (x : Int32) : Prop := 0 ≤ x ∧ x < nI σ.np
abbrev NS.isF (σ : NS) (x : Int32) : Prop := 0 ≤ x ∧ x < nI σ.nf
abbrev NS.isS (σ : NS) (x : Int32) : Prop := 0 ≤ x ∧ x < nI σ.ns
abbrev NS.Fx (σ : NS) (x : Int32) : Nat → Int32 := σ.F (iN x)
abbrev out (v a b : Int32) : Prop := v < a ∨ b < v
def absI (x : Int32) : Int32 := if 0 ≤ x then x else 0 - x
def sp_lamp (σ : NS) (x y : Int32) : Rs := if out x 20 80 ∨ out y 0 9 then (1, 0, σ) else (0, σ.di, σ.wD x y)
def sp_joke (σ : NS) (x : Int32) : Rs := if out x 0 9 then (1, 0, σ) else if x ≤ σ.be then (0, σ.be - x, σ.up 3 (σ.be - x)) else (0, -2, σ.up 6 (σ.off + 1))
def sp_grip (σ : NS) (x : Int32) : Rs := if ¬ σ.isF x then (1, 0, σ) else
  if gripS (sdS σ (iN x)) (σ.Fx x) σ.F σ.nf = -1 then (2, 0, σ) else
  (0, gripS (sdS σ (iN x)) (σ.Fx x) σ.F σ.nf, σ.fig (iN x) (upd (if σ.Fx x 3 = 0 then upd (σ.Fx x) 4 (if sdS σ (iN x) = 0 then 0 else 9) else σ.Fx x) 3 (gripS (sdS σ (iN x)) (σ.Fx x) σ.F σ.nf)))
def sp_move (σ : NS) (x y : Int32) : Rs := if ¬ σ.isF x then (1, 0, σ) else if ¬ (0 ≤ y ∧ y ≤ 9) then (2, 0, σ) else
  if ¬ (σ.Fx x 3 = 2 ∨ σ.Fx x 3 = 3) ∨ ¬ reachP (σ.Fx x 3) y ∨ ¬ figAt σ.F σ.nf y = -1 then (3, 0, σ) else
  (0, wearR (σ.Fx x) (absI (y - σ.Fx x 4)) 2, σ.fig (iN x) (upd (wearR (σ.Fx x) (absI (y - σ.Fx x 4))) 4 y))
def sp_lift (σ : NS) (x y : Int32) : Rs := if ¬ σ.isF x then (1, 0, σ) else if out y 0 15 then (2, 0, σ) else
  if ¬ (σ.Fx x 3 = 2 ∨ σ.Fx x 3 = 3) then (3, 0, σ) else (0, shad (σ.Fx x) σ.di y, σ.fig (iN x) (upd (σ.Fx x) 5 y))
def sp_plant (σ : NS) (x : Int32) : Rs := if ¬ σ.isF x then (1, 0, σ) else if ¬ (σ.Fx x 3 = 2 ∨ σ.Fx x 3 = 3) then (2, 0, σ) else
  (0, σ.Fx x 4, σ.fig (iN x) (upd (upd (σ.Fx x) 3 1) 5 0))
def othH (σ : NS) (x : Int32) : Int32 := if σ.Fx x 3 = 2 then 3 else 2
def sp_hand (σ : NS) (x : Int32) : Rs := if ¬ σ.isF x then (1, 0, σ) else if ¬ (σ.Fx x 3 = 2 ∨ σ.Fx x 3 = 3) ∨ ¬ (reachP (othH σ x) (σ.Fx x 4) ∧ freeP σ.F σ.nf (othH σ x)) then (2, 0, σ) else
  (0, othH σ x, σ.fig (iN x) (upd (σ.Fx x) 3 (othH σ x)))
def awayR (r : Nat → Int32) : Nat → Int32 := upd (upd (upd r 3 0) 4 (-1)) 5 0
def sp_away (σ : NS) (x : Int32) : Rs := if ¬ σ.isF x then (1, 0, σ) else if ¬ (σ.Fx x 3 = 2 ∨ σ.Fx x 3 = 3) ∨ ¬ σ.Fx x 4 = (if sdS σ (iN x) = 0 then 0 else 9) then (2, 0, σ) else
  (0, cntF (upF σ.F (iN x) (awayR (σ.Fx x))) σ.nf, σ.fig (iN x) (awayR (σ.Fx x)))
def sp_tap (σ : NS) (x : Int32) : Rs := if out x 0 3 then (1, 0, σ) else
  if x = 0 then (if onS σ = -1 ∨ ¬ σ.o 0 = -1 then (0, 0, σ.up 4 (σ.ms + 1)) else (0, 1, σ.wO (obeg σ.o (σ.S (iN (onS σ)) 1))))
  else if σ.o 0 = -1 then (0, 0, σ.up 4 (σ.ms + 1)) else (0, 1, σ.wO (upd σ.o 3 x))
def sp_ofFigure (σ : NS) (x q : Int32) : Rs := if ¬ σ.isF x then (1, 0, σ) else if out q 0 7 then (2, 0, σ) else (0, fvl (σ.Fx x) σ.di σ.sw q, σ)
def sp_ofScene (σ : NS) (x q : Int32) : Rs := if ¬ σ.isS x then (1, 0, σ) else if out q 0 8 then (2, 0, σ) else (0, svl (σ.S (iN x)) (rX σ.S (cbS σ) (kfS σ.P σ.np) (iN x)) q, σ)
def sp_at (σ : NS) (x : Int32) : Rs := if ¬ (0 ≤ x ∧ x ≤ 9) then (1, 0, σ) else (0, figAt σ.F σ.nf x, σ)
def sp_sound (σ : NS) (x : Int32) : Rs := if out x 0 3 then (1, 0, σ) else (0, ovl σ.o x, σ)
def sp_many (σ : NS) (x : Int32) : Rs := if out x 0 15 then (1, 0, σ) else (0, manS σ x, σ)
def sp_liftFor (σ : NS) (x y : Int32) : Rs := if ¬ σ.isF x then (1, 0, σ) else if out y 1 400 then (2, 0, σ) else (0, llf (σ.Fx x) σ.di y, σ)
def knS (σ : NS) (y : Int32) : Int32 := if y = -1 then kfS σ.P σ.np else rK σ.S (kfS σ.P σ.np) (iN y + 1)
def sp_knows (σ : NS) (x y : Int32) : Rs := if ¬ σ.isP x ∨ (¬ y = -1 ∧ ¬ σ.isS y) then (1, 0, σ) else (0, bI (holdsP (knS σ y) x), σ)
theorem bI_nar {c : Prop} [Decidable c] : narrow .boolean (.int (bI c)) = .int (bI c) := by
  unfold bI
  split <;> rfl
theorem cat_in {n : Nat} {x : Int32} (h : 0 ≤ x ∧ x < nI n) (hn : n < 2 ^ 31) : x = nI (iN x) ∧ iN x < n := nI_iN h.1 h.2 hn

set_option maxHeartbeats 4000000 in
set_option maxRecDepth 100000 in
theorem k_X6_ofFigure {l : Launch} {s0 : State} {a0 : Array Value} {G : GG} (X : CX l s0 a0 G) {h : AH} {tg ke : Nat} {A : KA} {σ : NS} (w : KelW G h tg ke A σ) (x : Int32) (y : Int32)  : ConX l s0 G yX6_ofFigure cX6_ofFigure 3 (some .int) 6 1 6 tg [.ref ke, .int x, .int y] h (PoN G tg ke (sp_ofFigure σ x y)) (PoX h σ [eI, eA] (sp_ofFigure σ x y)) := by
  refine ConX.of X (by decide +kernel) [some (.ref ke), some (.int x), some (.int y)] rfl (Nat.le_of_ble_eq_true rfl) (fun p e s m below meth c X hnm hret hE => ?_)
  have w0 := w
  obtain ⟨hke, hpw, hsw, hoc, hd1, hd2, hd3, hd4⟩ := w
  have hpl := hpw.1
  have hlp := hpw.2.1
  have hls := hpw.2.2.1
  have hP := hpw.2.2.2.1
  have hS := hpw.2.2.2.2.1
  have hn8 := hpw.2.2.2.2.2.1
  have hn10 := hpw.2.2.2.2.2.2.1
  have hsc := hsw.1
  have hlf := hsw.2.1
  have hF := hsw.2.2.1
  have hn12 := hsw.2.2.2.1
  refine aw_ald0 X dX6_ofFigure_0 rfl ?_
  refine aw_ild1 X dX6_ofFigure_1 rfl ?_
  refine aw_callV X dX6_ofFigure_2 rfl (k_X6_isFigure X.1 w0 _) cmX6_isFigure ml_X6_175 rfl hke rfl rfl (Nat.le_of_ble_eq_true rfl) ⟨Nat.le_of_ble_eq_true rfl, Nat.le_of_ble_eq_true rfl⟩ (aw_rs ?_)
  refine aw_if_ne (n2 := 18) X dX6_ofFigure_5 rfl rfl (fun c5 => ?_) (fun c5 => ?_)
  · obtain ⟨hxk, hkf⟩ := cat_in (bI_y c5) (show σ.nf < 2 ^ 31 by omega)
    refine aw_ild2 X dX6_ofFigure_18 rfl ?_
    refine aw_iconst X (0) dX6_ofFigure_19 (by decide) rfl ?_
    refine aw_bipush X (7) dX6_ofFigure_20 (by decide) rfl ?_
    refine aw_callS X dX6_ofFigure_22 rfl (k_X6_outside X.1 _ _ _) cmX6_outside ml_X6_52 rfl rfl (Nat.le_of_ble_eq_true rfl) ⟨Nat.le_of_ble_eq_true rfl, Nat.le_of_ble_eq_true rfl⟩ (aw_rs ?_)
    refine aw_if_eq (n2 := 39) X dX6_ofFigure_25 rfl rfl (fun c25 => ?_) (fun c25 => ?_)
    · refine aw_ald0 X dX6_ofFigure_39 rfl ?_
      refine aw_get X fd_X6_19 dX6_ofFigure_40 rfl hke rfl ?_
      refine aw_ald0 X dX6_ofFigure_43 rfl ?_
      refine aw_get X fd_X6_19 dX6_ofFigure_44 rfl hke rfl ?_
      refine aw_get X fd_X6_98 dX6_ofFigure_47 rfl hsc rfl ?_
      refine aw_ild1 X dX6_ofFigure_50 rfl ?_
      refine aw_callV X dX6_ofFigure_51 rfl (k_lget X.1 hlf hxk hkf (hF _ hkf).1) cmJx4a65c_get_915e3 ml_X6_105 rfl hlf.1 rfl rfl (Nat.le_of_ble_eq_true rfl) ⟨Nat.le_of_ble_eq_true rfl, Nat.le_of_ble_eq_true rfl⟩ (aw_rs ?_)
      refine aw_cast X dX6_ofFigure_54 rfl rfl cc_X6_103 (hF _ hkf).2 ?_
      refine aw_ild2 X dX6_ofFigure_57 rfl ?_
      refine aw_callV X dX6_ofFigure_58 rfl (k_X5_figureValue X.1 hsw (hF _ hkf).2 y) cmX5_figureValue ml_X6_297 rfl hsc rfl rfl (Nat.le_of_ble_eq_true rfl) ⟨Nat.le_of_ble_eq_true rfl, Nat.le_of_ble_eq_true rfl⟩ (aw_rs ?_)
      exact aw_vx (aw_iret X hret rfl dX6_ofFigure_61 (PoN.mk (by unfold sp_ofFigure; rw [if_neg (fun q => q (bI_y c5)), if_neg (bI_n c25)]) w0))
    · exact aw_throw X th_eA (List.mem_of_getElem? (i := 11) rfl) hE dX6_ofFigure_28 dX6_ofFigure_31 (Or.inr ⟨dX6_ofFigure_32, dX6_ofFigure_35, dX6_ofFigure_38⟩) (by decide) (Nat.le_of_ble_eq_true rfl) (PoX.mk (by unfold sp_ofFigure; rw [if_neg (fun q => q (bI_y c5)), if_pos (bI_y c25)]) rfl)
  · exact aw_throw X th_eI (List.mem_of_getElem? (i := 1) rfl) hE dX6_ofFigure_8 dX6_ofFigure_11 (Or.inl ⟨dX6_ofFigure_12, dX6_ofFigure_14, dX6_ofFigure_17⟩) (by decide) (Nat.le_of_ble_eq_true rfl) (PoX.mk (by unfold sp_ofFigure; rw [if_pos (bI_n c5)]) rfl)

set_option maxHeartbeats 4000000 in
set_option maxRecDepth 100000 in
theorem k_X6_ofScene {l : Launch} {s0 : State} {a0 : Array Value} {G : GG} (X : CX l s0 a0 G) {h : AH} {tg ke : Nat} {A : KA} {σ : NS} (w : KelW G h tg ke A σ) (x : Int32) (y : Int32)  : ConX l s0 G yX6_ofScene cX6_ofScene 3 (some .int) 6 1 6 tg [.ref ke, .int x, .int y] h (PoN G tg ke (sp_ofScene σ x y)) (PoX h σ [eI, eA] (sp_ofScene σ x y)) := by
  refine ConX.of X (by decide +kernel) [some (.ref ke), some (.int x), some (.int y)] rfl (Nat.le_of_ble_eq_true rfl) (fun p e s m below meth c X hnm hret hE => ?_)
  have w0 := w
  obtain ⟨hke, hpw, hsw, hoc, hd1, hd2, hd3, hd4⟩ := w
  have hpl := hpw.1
  have hlp := hpw.2.1
  have hls := hpw.2.2.1
  have hP := hpw.2.2.2.1
  have hS := hpw.2.2.2.2.1
  have hn8 := hpw.2.2.2.2.2.1
  have hn10 := hpw.2.2.2.2.2.2.1
  have hsc := hsw.1
  have hlf := hsw.2.1
  have hF := hsw.2.2.1
  have hn12 := hsw.2.2.2.1
  refine aw_ald0 X dX6_ofScene_0 rfl ?_
  refine aw_ild1 X dX6_ofScene_1 rfl ?_
  refine aw_callV X dX6_ofScene_2 rfl (k_X6_isScene X.1 w0 _) cmX6_isScene ml_X6_140 rfl hke rfl rfl (Nat.le_of_ble_eq_true rfl) ⟨Nat.le_of_ble_eq_true rfl, Nat.le_of_ble_eq_true rfl⟩ (aw_rs ?_)
  refine aw_if_ne (n2 := 18) X dX6_ofScene_5 rfl rfl (fun c5 => ?_) (fun c5 => ?_)
  · obtain ⟨hxk, hkf⟩ := cat_in (bI_y c5) (show σ.ns < 2 ^ 31 by omega)
    refine aw_ild2 X dX6_ofScene_18 rfl ?_
    refine aw_iconst X (0) dX6_ofScene_19 (by decide) rfl ?_
    refine aw_bipush X (8) dX6_ofScene_20 (by decide) rfl ?_
    refine aw_callS X dX6_ofScene_22 rfl (k_X6_outside X.1 _ _ _) cmX6_outside ml_X6_52 rfl rfl (Nat.le_of_ble_eq_true rfl) ⟨Nat.le_of_ble_eq_true rfl, Nat.le_of_ble_eq_true rfl⟩ (aw_rs ?_)
    refine aw_if_eq (n2 := 39) X dX6_ofScene_25 rfl rfl (fun c25 => ?_) (fun c25 => ?_)
    · refine aw_ald0 X dX6_ofScene_39 rfl ?_
      refine aw_get X fd_X6_10 dX6_ofScene_40 rfl hke rfl ?_
      refine aw_get X fd_X6_131 dX6_ofScene_43 rfl hpl rfl ?_
      refine aw_ild1 X dX6_ofScene_46 rfl ?_
      refine aw_callV X dX6_ofScene_47 rfl (k_lget X.1 hls hxk hkf (hS _ hkf).1) cmJx4a65c_get_915e3 ml_X6_105 rfl hls.1 rfl rfl (Nat.le_of_ble_eq_true rfl) ⟨Nat.le_of_ble_eq_true rfl, Nat.le_of_ble_eq_true rfl⟩ (aw_rs ?_)
      refine aw_cast X dX6_ofScene_50 rfl rfl cc_X6_147 (hS _ hkf).2 ?_
      refine aw_ild2 X dX6_ofScene_53 rfl ?_
      refine aw_callV X dX6_ofScene_54 rfl (k_X4_value X.1 (hS _ hkf).2 y) cmX4_value ml_X6_302 rfl (hS _ hkf).2 rfl rfl (Nat.le_of_ble_eq_true rfl) ⟨Nat.le_of_ble_eq_true rfl, Nat.le_of_ble_eq_true rfl⟩ (aw_rs ?_)
      exact aw_vx (aw_iret X hret rfl dX6_ofScene_57 (PoN.mk (by unfold sp_ofScene; rw [if_neg (fun q => q (bI_y c5)), if_neg (bI_n c25)]) w0))
    · exact aw_throw X th_eA (List.mem_of_getElem? (i := 13) rfl) hE dX6_ofScene_28 dX6_ofScene_31 (Or.inr ⟨dX6_ofScene_32, dX6_ofScene_35, dX6_ofScene_38⟩) (by decide) (Nat.le_of_ble_eq_true rfl) (PoX.mk (by unfold sp_ofScene; rw [if_neg (fun q => q (bI_y c5)), if_pos (bI_y c25)]) rfl)
  · exact aw_throw X th_eI (List.mem_of_getElem? (i := 12) rfl) hE dX6_ofScene_8 dX6_ofScene_11 (Or.inl ⟨dX6_ofScene_12, dX6_ofScene_14, dX6_ofScene_17⟩) (by decide) (Nat.le_of_ble_eq_true rfl) (PoX.mk (by unfold sp_ofScene; rw [if_pos (bI_n c5)]) rfl)

set_option maxHeartbeats 4000000 in
set_option maxRecDepth 100000 in
theorem k_X6_at {l : Launch} {s0 : State} {a0 : Array Value} {G : GG} (X : CX l s0 a0 G) {h : AH} {tg ke : Nat} {A : KA} {σ : NS} (w : KelW G h tg ke A σ) (x : Int32)  : ConX l s0 G yX6_at cX6_at 2 (some .int) 6 1 6 tg [.ref ke, .int x] h (PoN G tg ke (sp_at σ x)) (PoX h σ [eI] (sp_at σ x)) := by
  refine ConX.of X (by decide +kernel) [some (.ref ke), some (.int x)] rfl (Nat.le_of_ble_eq_true rfl) (fun p e s m below meth c X hnm hret hE => ?_)
  have w0 := w
  obtain ⟨hke, hpw, hsw, hoc, hd1, hd2, hd3, hd4⟩ := w
  have hpl := hpw.1
  have hlp := hpw.2.1
  have hls := hpw.2.2.1
  have hP := hpw.2.2.2.1
  have hS := hpw.2.2.2.2.1
  have hn8 := hpw.2.2.2.2.2.1
  have hn10 := hpw.2.2.2.2.2.2.1
  have hsc := hsw.1
  have hlf := hsw.2.1
  have hF := hsw.2.2.1
  have hn12 := hsw.2.2.2.1
  refine aw_ild1 X dX6_at_0 rfl ?_
  refine aw_callS X dX6_at_1 rfl (k_X6_isPlace X.1 _) cmX6_isPlace ml_X6_197 rfl rfl (Nat.le_of_ble_eq_true rfl) ⟨Nat.le_of_ble_eq_true rfl, Nat.le_of_ble_eq_true rfl⟩ (aw_rs ?_)
  refine aw_if_ne (n2 := 17) X dX6_at_4 rfl rfl (fun c4 => ?_) (fun c4 => ?_)
  · refine aw_ald0 X dX6_at_17 rfl ?_
    refine aw_get X fd_X6_19 dX6_at_18 rfl hke rfl ?_
    refine aw_ild1 X dX6_at_21 rfl ?_
    refine aw_callV X dX6_at_22 rfl (k_figAt X.1 w0 _) cmX5_figureAt ml_X6_209 rfl hsc rfl rfl (Nat.le_of_ble_eq_true rfl) ⟨Nat.le_of_ble_eq_true rfl, Nat.le_of_ble_eq_true rfl⟩ (aw_rs ?_)
    exact aw_vx (aw_iret X hret rfl dX6_at_25 (PoN.mk (by unfold sp_at; rw [if_neg (fun q => q (bI_y c4))]) w0))
  · exact aw_throw X th_eI (List.mem_of_getElem? (i := 14) rfl) hE dX6_at_7 dX6_at_10 (Or.inl ⟨dX6_at_11, dX6_at_13, dX6_at_16⟩) (by decide) (Nat.le_of_ble_eq_true rfl) (PoX.mk (by unfold sp_at; rw [if_pos (bI_n c4)]) rfl)

set_option maxHeartbeats 4000000 in
set_option maxRecDepth 100000 in
theorem k_X6_sound {l : Launch} {s0 : State} {a0 : Array Value} {G : GG} (X : CX l s0 a0 G) {h : AH} {tg ke : Nat} {A : KA} {σ : NS} (w : KelW G h tg ke A σ) (x : Int32)  : ConX l s0 G yX6_sound cX6_sound 2 (some .int) 6 1 6 tg [.ref ke, .int x] h (PoN G tg ke (sp_sound σ x)) (PoX h σ [eA] (sp_sound σ x)) := by
  refine ConX.of X (by decide +kernel) [some (.ref ke), some (.int x)] rfl (Nat.le_of_ble_eq_true rfl) (fun p e s m below meth c X hnm hret hE => ?_)
  have w0 := w
  obtain ⟨hke, hpw, hsw, hoc, hd1, hd2, hd3, hd4⟩ := w
  have hpl := hpw.1
  have hlp := hpw.2.1
  have hls := hpw.2.2.1
  have hP := hpw.2.2.2.1
  have hS := hpw.2.2.2.2.1
  have hn8 := hpw.2.2.2.2.2.1
  have hn10 := hpw.2.2.2.2.2.2.1
  have hsc := hsw.1
  have hlf := hsw.2.1
  have hF := hsw.2.2.1
  have hn12 := hsw.2.2.2.1
  refine aw_ild1 X dX6_sound_0 rfl ?_
  refine aw_iconst X (0) dX6_sound_1 (by decide) rfl ?_
  refine aw_iconst X (3) dX6_sound_2 (by decide) rfl ?_
  refine aw_callS X dX6_sound_3 rfl (k_X6_outside X.1 _ _ _) cmX6_outside ml_X6_52 rfl rfl (Nat.le_of_ble_eq_true rfl) ⟨Nat.le_of_ble_eq_true rfl, Nat.le_of_ble_eq_true rfl⟩ (aw_rs ?_)
  refine aw_if_eq (n2 := 20) X dX6_sound_6 rfl rfl (fun c6 => ?_) (fun c6 => ?_)
  · refine aw_ald0 X dX6_sound_20 rfl ?_
    refine aw_get X fd_X6_26 dX6_sound_21 rfl hke rfl ?_
    refine aw_ild1 X dX6_sound_24 rfl ?_
    refine aw_callV X dX6_sound_25 rfl (k_X1_value X.1 hoc _) cmX1_value ml_X6_307 rfl hoc rfl rfl (Nat.le_of_ble_eq_true rfl) ⟨Nat.le_of_ble_eq_true rfl, Nat.le_of_ble_eq_true rfl⟩ (aw_rs ?_)
    exact aw_vx (aw_iret X hret rfl dX6_sound_28 (PoN.mk (by unfold sp_sound; rw [if_neg (bI_n c6)]) w0))
  · exact aw_throw X th_eA (List.mem_of_getElem? (i := 15) rfl) hE dX6_sound_9 dX6_sound_12 (Or.inr ⟨dX6_sound_13, dX6_sound_16, dX6_sound_19⟩) (by decide) (Nat.le_of_ble_eq_true rfl) (PoX.mk (by unfold sp_sound; rw [if_pos (bI_y c6)]) rfl)

set_option maxHeartbeats 4000000 in
set_option maxRecDepth 100000 in
theorem k_X6_many {l : Launch} {s0 : State} {a0 : Array Value} {G : GG} (X : CX l s0 a0 G) {h : AH} {tg ke : Nat} {A : KA} {σ : NS} (w : KelW G h tg ke A σ) (x : Int32)  : ConX l s0 G yX6_many cX6_many 2 (some .int) 6 1 6 tg [.ref ke, .int x] h (PoN G tg ke (sp_many σ x)) (PoX h σ [eA] (sp_many σ x)) := by
  refine ConX.of X (by decide +kernel) [some (.ref ke), some (.int x)] rfl (Nat.le_of_ble_eq_true rfl) (fun p e s m below meth c X hnm hret hE => ?_)
  have w0 := w
  obtain ⟨hke, hpw, hsw, hoc, hd1, hd2, hd3, hd4⟩ := w
  have hpl := hpw.1
  have hlp := hpw.2.1
  have hls := hpw.2.2.1
  have hP := hpw.2.2.2.1
  have hS := hpw.2.2.2.2.1
  have hn8 := hpw.2.2.2.2.2.1
  have hn10 := hpw.2.2.2.2.2.2.1
  have hsc := hsw.1
  have hlf := hsw.2.1
  have hF := hsw.2.2.1
  have hn12 := hsw.2.2.2.1
  refine aw_ild1 X dX6_many_0 rfl ?_
  refine aw_iconst X (0) dX6_many_1 (by decide) rfl ?_
  refine aw_bipush X (15) dX6_many_2 (by decide) rfl ?_
  refine aw_callS X dX6_many_4 rfl (k_X6_outside X.1 _ _ _) cmX6_outside ml_X6_52 rfl rfl (Nat.le_of_ble_eq_true rfl) ⟨Nat.le_of_ble_eq_true rfl, Nat.le_of_ble_eq_true rfl⟩ (aw_rs ?_)
  refine aw_if_eq (n2 := 21) X dX6_many_7 rfl rfl (fun c7 => ?_) (fun c7 => ?_)
  · refine aw_ald0 X dX6_many_21 rfl ?_
    refine aw_ild1 X dX6_many_22 rfl ?_
    refine aw_callV X dX6_many_23 rfl (k_X6_nightValue X.1 w0 _) cmX6_nightValue ml_X6_310 rfl hke rfl rfl (Nat.le_of_ble_eq_true rfl) ⟨Nat.le_of_ble_eq_true rfl, Nat.le_of_ble_eq_true rfl⟩ (aw_rs ?_)
    exact aw_vx (aw_iret X hret rfl dX6_many_26 (PoN.mk (by unfold sp_many; rw [if_neg (bI_n c7)]) w0))
  · exact aw_throw X th_eA (List.mem_of_getElem? (i := 16) rfl) hE dX6_many_10 dX6_many_13 (Or.inr ⟨dX6_many_14, dX6_many_17, dX6_many_20⟩) (by decide) (Nat.le_of_ble_eq_true rfl) (PoX.mk (by unfold sp_many; rw [if_pos (bI_y c7)]) rfl)

set_option maxHeartbeats 4000000 in
set_option maxRecDepth 100000 in
theorem k_X6_lamp {l : Launch} {s0 : State} {a0 : Array Value} {G : GG} (X : CX l s0 a0 G) {h : AH} {tg ke : Nat} {A : KA} {σ : NS} (htg : tg ≠ 0) (w : KelW G h tg ke A σ) (x : Int32) (y : Int32)  : ConX l s0 G yX6_lamp cX6_lamp 4 (some .int) 6 1 6 tg [.ref ke, .int x, .int y] h (PoN G tg ke (sp_lamp σ x y)) (PoX h σ [eA] (sp_lamp σ x y)) := by
  refine ConX.of X (by decide +kernel) [some (.ref ke), some (.int x), some (.int y), none] rfl (Nat.le_of_ble_eq_true rfl) (fun p e s m below meth c X hnm hret hE => ?_)
  have w0 := w
  obtain ⟨hke, hpw, hsw, hoc, hd1, hd2, hd3, hd4⟩ := w
  have hpl := hpw.1
  have hlp := hpw.2.1
  have hls := hpw.2.2.1
  have hP := hpw.2.2.2.1
  have hS := hpw.2.2.2.2.1
  have hn8 := hpw.2.2.2.2.2.1
  have hn10 := hpw.2.2.2.2.2.2.1
  have hsc := hsw.1
  have hlf := hsw.2.1
  have hF := hsw.2.2.1
  have hn12 := hsw.2.2.2.1
  refine aw_ild1 X dX6_lamp_0 rfl ?_
  refine aw_bipush X (20) dX6_lamp_1 (by decide) rfl ?_
  refine aw_bipush X (80) dX6_lamp_3 (by decide) rfl ?_
  refine aw_callS X dX6_lamp_5 rfl (k_X6_outside X.1 _ _ _) cmX6_outside ml_X6_52 rfl rfl (Nat.le_of_ble_eq_true rfl) ⟨Nat.le_of_ble_eq_true rfl, Nat.le_of_ble_eq_true rfl⟩ (aw_rs ?_)
  refine aw_if_ne (n2 := 21) X dX6_lamp_8 rfl rfl (fun c8 => ?_) (fun c8 => ?_)
  · exact aw_throw X th_eA (List.mem_of_getElem? (i := 0) rfl) hE dX6_lamp_21 dX6_lamp_24 (Or.inl ⟨dX6_lamp_25, dX6_lamp_27, dX6_lamp_30⟩) (by decide) (Nat.le_of_ble_eq_true rfl) (PoX.mk (by unfold sp_lamp; rw [if_pos (Or.inl (bI_y c8))]) rfl)
  · refine aw_ild2 X dX6_lamp_11 rfl ?_
    refine aw_iconst X (0) dX6_lamp_12 (by decide) rfl ?_
    refine aw_bipush X (9) dX6_lamp_13 (by decide) rfl ?_
    refine aw_callS X dX6_lamp_15 rfl (k_X6_outside X.1 _ _ _) cmX6_outside ml_X6_52 rfl rfl (Nat.le_of_ble_eq_true rfl) ⟨Nat.le_of_ble_eq_true rfl, Nat.le_of_ble_eq_true rfl⟩ (aw_rs ?_)
    refine aw_if_eq (n2 := 31) X dX6_lamp_18 rfl rfl (fun c18 => ?_) (fun c18 => ?_)
    · refine aw_ald0 X dX6_lamp_31 rfl ?_
      refine aw_get X fd_X6_19 dX6_lamp_32 rfl hke rfl ?_
      refine aw_get X fd_X6_169 dX6_lamp_35 rfl hsc rfl ?_
      refine aw_ist3 X dX6_lamp_38 rfl (by decide) rfl ?_
      refine aw_ald0 X dX6_lamp_39 rfl ?_
      refine aw_get X fd_X6_19 dX6_lamp_40 rfl hke rfl ?_
      refine aw_ild1 X dX6_lamp_43 rfl ?_
      refine aw_put X fd_X6_169 fw_X5_1 dX6_lamp_44 rfl htg hsc rfl rfl (Nat.le_of_ble_eq_true rfl) ?_
      refine aw_ald0 X dX6_lamp_47 rfl ?_
      refine aw_get X fd_X6_19 dX6_lamp_48 rfl ((hu_n (kk_ne hke hsc (show (8 : Nat) ≠ 7 by decide))).trans hke) rfl ?_
      refine aw_ild2 X dX6_lamp_51 rfl ?_
      refine aw_put X fd_X6_172 fw_X5_2 dX6_lamp_52 rfl htg hu_s rfl rfl (Nat.le_of_ble_eq_true rfl) ?_
      refine aw_ild3 X dX6_lamp_55 rfl ?_
      exact aw_vx (aw_iret X hret rfl dX6_lamp_56 (PoN.mk (σ2 := σ.wD x y) (by unfold sp_lamp; rw [if_neg (fun q => q.elim (bI_n c8) (bI_n c18))]) (by rw [hu_hu]; exact w0.scr x y)))
    · exact aw_throw X th_eA (List.mem_of_getElem? (i := 0) rfl) hE dX6_lamp_21 dX6_lamp_24 (Or.inl ⟨dX6_lamp_25, dX6_lamp_27, dX6_lamp_30⟩) (by decide) (Nat.le_of_ble_eq_true rfl) (PoX.mk (by unfold sp_lamp; rw [if_pos (Or.inr (bI_y c18))]) rfl)

set_option maxHeartbeats 4000000 in
set_option maxRecDepth 100000 in
theorem k_X6_joke {l : Launch} {s0 : State} {a0 : Array Value} {G : GG} (X : CX l s0 a0 G) {h : AH} {tg ke : Nat} {A : KA} {σ : NS} (htg : tg ≠ 0) (w : KelW G h tg ke A σ) (x : Int32)  : ConX l s0 G yX6_joke cX6_joke 2 (some .int) 6 1 6 tg [.ref ke, .int x] h (PoN G tg ke (sp_joke σ x)) (PoX h σ [eA] (sp_joke σ x)) := by
  refine ConX.of X (by decide +kernel) [some (.ref ke), some (.int x)] rfl (Nat.le_of_ble_eq_true rfl) (fun p e s m below meth c X hnm hret hE => ?_)
  have w0 := w
  obtain ⟨hke, hpw, hsw, hoc, hd1, hd2, hd3, hd4⟩ := w
  have hpl := hpw.1
  have hlp := hpw.2.1
  have hls := hpw.2.2.1
  have hP := hpw.2.2.2.1
  have hS := hpw.2.2.2.2.1
  have hn8 := hpw.2.2.2.2.2.1
  have hn10 := hpw.2.2.2.2.2.2.1
  have hsc := hsw.1
  have hlf := hsw.2.1
  have hF := hsw.2.2.1
  have hn12 := hsw.2.2.2.1
  refine aw_ild1 X dX6_joke_0 rfl ?_
  refine aw_iconst X (0) dX6_joke_1 (by decide) rfl ?_
  refine aw_bipush X (9) dX6_joke_2 (by decide) rfl ?_
  refine aw_callS X dX6_joke_4 rfl (k_X6_outside X.1 _ _ _) cmX6_outside ml_X6_52 rfl rfl (Nat.le_of_ble_eq_true rfl) ⟨Nat.le_of_ble_eq_true rfl, Nat.le_of_ble_eq_true rfl⟩ (aw_rs ?_)
  refine aw_if_eq (n2 := 21) X dX6_joke_7 rfl rfl (fun c7 => ?_) (fun c7 => ?_)
  · refine aw_ild1 X dX6_joke_21 rfl ?_
    refine aw_ald0 X dX6_joke_22 rfl ?_
    refine aw_get X fd_X6_40 dX6_joke_23 rfl hke rfl ?_
    refine aw_icmp_le (n2 := 42) X dX6_joke_26 rfl rfl (fun c26 => ?_) (fun c26 => ?_)
    · refine aw_ald0 X dX6_joke_42 rfl ?_
      refine aw_dup X dX6_joke_43 rfl rfl ?_
      refine aw_get X fd_X6_40 dX6_joke_44 rfl hke rfl ?_
      refine aw_ild1 X dX6_joke_47 rfl ?_
      refine aw_isub X dX6_joke_48 rfl ?_
      refine aw_put X fd_X6_40 fw_X6_6 dX6_joke_49 rfl htg hke rfl rfl (Nat.le_of_ble_eq_true rfl) ?_
      refine aw_ald0 X dX6_joke_52 rfl ?_
      refine aw_get X fd_X6_40 dX6_joke_53 rfl hu_s rfl ?_
      exact aw_vx (aw_iret X hret rfl dX6_joke_56 (PoN.mk (σ2 := σ.up 3 (σ.be - x)) (by unfold sp_joke; rw [if_neg (bI_n c7), if_pos c26]) (by exact w0.own (upd σ.v 3 (σ.be - x)))))
    · refine aw_ald0 X dX6_joke_29 rfl ?_
      refine aw_dup X dX6_joke_30 rfl rfl ?_
      refine aw_get X fd_X6_49 dX6_joke_31 rfl hke rfl ?_
      refine aw_iconst X (1) dX6_joke_34 (by decide) rfl ?_
      refine aw_iadd X dX6_joke_35 rfl ?_
      refine aw_put X fd_X6_49 fw_X6_9 dX6_joke_36 rfl htg hke rfl rfl (Nat.le_of_ble_eq_true rfl) ?_
      refine aw_bipush X (-2) dX6_joke_39 (by decide) rfl ?_
      exact aw_vx (aw_iret X hret rfl dX6_joke_41 (PoN.mk (σ2 := σ.up 6 (σ.off + 1)) (by unfold sp_joke; rw [if_neg (bI_n c7), if_neg (Int32.not_le.mpr (Int32.not_le.mp c26))]) (by exact w0.own (upd σ.v 6 (σ.off + 1)))))
  · exact aw_throw X th_eA (List.mem_of_getElem? (i := 8) rfl) hE dX6_joke_10 dX6_joke_13 (Or.inr ⟨dX6_joke_14, dX6_joke_17, dX6_joke_20⟩) (by decide) (Nat.le_of_ble_eq_true rfl) (PoX.mk (by unfold sp_joke; rw [if_pos (bI_y c7)]) rfl)

set_option maxHeartbeats 4000000 in
set_option maxRecDepth 100000 in
theorem k_X6_plant {l : Launch} {s0 : State} {a0 : Array Value} {G : GG} (X : CX l s0 a0 G) {h : AH} {tg ke : Nat} {A : KA} {σ : NS} (htg : tg ≠ 0) (w : KelW G h tg ke A σ) (x : Int32)  : ConX l s0 G yX6_plant cX6_plant 3 (some .int) 6 1 6 tg [.ref ke, .int x] h (PoN G tg ke (sp_plant σ x)) (PoX h σ [eI, eS] (sp_plant σ x)) := by
  refine ConX.of X (by decide +kernel) [some (.ref ke), some (.int x), none] rfl (Nat.le_of_ble_eq_true rfl) (fun p e s m below meth c X hnm hret hE => ?_)
  have w0 := w
  obtain ⟨hke, hpw, hsw, hoc, hd1, hd2, hd3, hd4⟩ := w
  have hpl := hpw.1
  have hlp := hpw.2.1
  have hls := hpw.2.2.1
  have hP := hpw.2.2.2.1
  have hS := hpw.2.2.2.2.1
  have hn8 := hpw.2.2.2.2.2.1
  have hn10 := hpw.2.2.2.2.2.2.1
  have hsc := hsw.1
  have hlf := hsw.2.1
  have hF := hsw.2.2.1
  have hn12 := hsw.2.2.2.1
  refine aw_ald0 X dX6_plant_0 rfl ?_
  refine aw_ild1 X dX6_plant_1 rfl ?_
  refine aw_callV X dX6_plant_2 rfl (k_X6_isFigure X.1 w0 _) cmX6_isFigure ml_X6_175 rfl hke rfl rfl (Nat.le_of_ble_eq_true rfl) ⟨Nat.le_of_ble_eq_true rfl, Nat.le_of_ble_eq_true rfl⟩ (aw_rs ?_)
  refine aw_if_ne (n2 := 18) X dX6_plant_5 rfl rfl (fun c5 => ?_) (fun c5 => ?_)
  · obtain ⟨hxk, hkf⟩ := cat_in (bI_y c5) (show σ.nf < 2 ^ 31 by omega)
    refine aw_ald0 X dX6_plant_18 rfl ?_
    refine aw_get X fd_X6_19 dX6_plant_19 rfl hke rfl ?_
    refine aw_get X fd_X6_98 dX6_plant_22 rfl hsc rfl ?_
    refine aw_ild1 X dX6_plant_25 rfl ?_
    refine aw_callV X dX6_plant_26 rfl (k_lget X.1 hlf hxk hkf (hF _ hkf).1) cmJx4a65c_get_915e3 ml_X6_105 rfl hlf.1 rfl rfl (Nat.le_of_ble_eq_true rfl) ⟨Nat.le_of_ble_eq_true rfl, Nat.le_of_ble_eq_true rfl⟩ (aw_rs ?_)
    refine aw_cast X dX6_plant_29 rfl rfl cc_X6_103 (hF _ hkf).2 ?_
    refine aw_ast2 X dX6_plant_32 rfl (by decide) rfl ?_
    refine aw_ald2 X dX6_plant_33 rfl ?_
    refine aw_callV X dX6_plant_34 rfl (k_inHand X.1 (hF _ hkf).2) cmX0_inHand ml_X6_202 rfl (hF _ hkf).2 rfl rfl (Nat.le_of_ble_eq_true rfl) ⟨Nat.le_of_ble_eq_true rfl, Nat.le_of_ble_eq_true rfl⟩ (aw_rs ?_)
    refine aw_if_ne (n2 := 50) X dX6_plant_37 rfl rfl (fun c37 => ?_) (fun c37 => ?_)
    · refine aw_ald2 X dX6_plant_50 rfl ?_
      refine aw_iconst X (1) dX6_plant_51 (by decide) rfl ?_
      refine aw_put X fd_X6_186 fw_X0_4 dX6_plant_52 rfl htg (hF _ hkf).2 rfl rfl (Nat.le_of_ble_eq_true rfl) ?_
      refine aw_ald2 X dX6_plant_55 rfl ?_
      refine aw_iconst X (0) dX6_plant_56 (by decide) rfl ?_
      refine aw_put X fd_X6_230 fw_X0_6 dX6_plant_57 rfl htg hu_s rfl rfl (Nat.le_of_ble_eq_true rfl) ?_
      refine aw_ald2 X dX6_plant_60 rfl ?_
      refine aw_get X fd_X6_194 dX6_plant_61 rfl hu_s rfl ?_
      exact aw_vx (aw_iret X hret rfl dX6_plant_64 (PoN.mk (σ2 := σ.fig (iN x) (upd (upd (σ.Fx x) 3 1) 5 0)) (by unfold sp_plant; rw [if_neg (fun q => q (bI_y c5)), if_neg (fun q => q (bI_y c37))]) (by rw [hu_hu]; exact w0.fig hkf (upd (upd (σ.Fx x) 3 1) 5 0) rfl)))
    · exact aw_throw X th_eS (List.mem_of_getElem? (i := 3) rfl) hE dX6_plant_40 dX6_plant_43 (Or.inl ⟨dX6_plant_44, dX6_plant_46, dX6_plant_49⟩) (by decide) (Nat.le_of_ble_eq_true rfl) (PoX.mk (by unfold sp_plant; rw [if_neg (fun q => q (bI_y c5)), if_pos (bI_n c37)]) rfl)
  · exact aw_throw X th_eI (List.mem_of_getElem? (i := 1) rfl) hE dX6_plant_8 dX6_plant_11 (Or.inl ⟨dX6_plant_12, dX6_plant_14, dX6_plant_17⟩) (by decide) (Nat.le_of_ble_eq_true rfl) (PoX.mk (by unfold sp_plant; rw [if_pos (bI_n c5)]) rfl)

set_option maxHeartbeats 4000000 in
set_option maxRecDepth 100000 in
theorem k_X6_lift {l : Launch} {s0 : State} {a0 : Array Value} {G : GG} (X : CX l s0 a0 G) {h : AH} {tg ke : Nat} {A : KA} {σ : NS} (htg : tg ≠ 0) (w : KelW G h tg ke A σ) (x : Int32) (y : Int32)  : ConX l s0 G yX6_lift cX6_lift 4 (some .int) 6 1 6 tg [.ref ke, .int x, .int y] h (PoN G tg ke (sp_lift σ x y)) (PoX h σ [eI, eA, eS] (sp_lift σ x y)) := by
  refine ConX.of X (by decide +kernel) [some (.ref ke), some (.int x), some (.int y), none] rfl (Nat.le_of_ble_eq_true rfl) (fun p e s m below meth c X hnm hret hE => ?_)
  have w0 := w
  obtain ⟨hke, hpw, hsw, hoc, hd1, hd2, hd3, hd4⟩ := w
  have hpl := hpw.1
  have hlp := hpw.2.1
  have hls := hpw.2.2.1
  have hP := hpw.2.2.2.1
  have hS := hpw.2.2.2.2.1
  have hn8 := hpw.2.2.2.2.2.1
  have hn10 := hpw.2.2.2.2.2.2.1
  have hsc := hsw.1
  have hlf := hsw.2.1
  have hF := hsw.2.2.1
  have hn12 := hsw.2.2.2.1
  refine aw_ald0 X dX6_lift_0 rfl ?_
  refine aw_ild1 X dX6_lift_1 rfl ?_
  refine aw_callV X dX6_lift_2 rfl (k_X6_isFigure X.1 w0 _) cmX6_isFigure ml_X6_175 rfl hke rfl rfl (Nat.le_of_ble_eq_true rfl) ⟨Nat.le_of_ble_eq_true rfl, Nat.le_of_ble_eq_true rfl⟩ (aw_rs ?_)
  refine aw_if_ne (n2 := 18) X dX6_lift_5 rfl rfl (fun c5 => ?_) (fun c5 => ?_)
  · obtain ⟨hxk, hkf⟩ := cat_in (bI_y c5) (show σ.nf < 2 ^ 31 by omega)
    refine aw_ild2 X dX6_lift_18 rfl ?_
    refine aw_iconst X (0) dX6_lift_19 (by decide) rfl ?_
    refine aw_bipush X (15) dX6_lift_20 (by decide) rfl ?_
    refine aw_callS X dX6_lift_22 rfl (k_X6_outside X.1 _ _ _) cmX6_outside ml_X6_52 rfl rfl (Nat.le_of_ble_eq_true rfl) ⟨Nat.le_of_ble_eq_true rfl, Nat.le_of_ble_eq_true rfl⟩ (aw_rs ?_)
    refine aw_if_eq (n2 := 38) X dX6_lift_25 rfl rfl (fun c25 => ?_) (fun c25 => ?_)
    · refine aw_ald0 X dX6_lift_38 rfl ?_
      refine aw_get X fd_X6_19 dX6_lift_39 rfl hke rfl ?_
      refine aw_get X fd_X6_98 dX6_lift_42 rfl hsc rfl ?_
      refine aw_ild1 X dX6_lift_45 rfl ?_
      refine aw_callV X dX6_lift_46 rfl (k_lget X.1 hlf hxk hkf (hF _ hkf).1) cmJx4a65c_get_915e3 ml_X6_105 rfl hlf.1 rfl rfl (Nat.le_of_ble_eq_true rfl) ⟨Nat.le_of_ble_eq_true rfl, Nat.le_of_ble_eq_true rfl⟩ (aw_rs ?_)
      refine aw_cast X dX6_lift_49 rfl rfl cc_X6_103 (hF _ hkf).2 ?_
      refine aw_ast3 X dX6_lift_52 rfl (by decide) rfl ?_
      refine aw_ald3 X dX6_lift_53 rfl ?_
      refine aw_callV X dX6_lift_54 rfl (k_inHand X.1 (hF _ hkf).2) cmX0_inHand ml_X6_202 rfl (hF _ hkf).2 rfl rfl (Nat.le_of_ble_eq_true rfl) ⟨Nat.le_of_ble_eq_true rfl, Nat.le_of_ble_eq_true rfl⟩ (aw_rs ?_)
      refine aw_if_ne (n2 := 70) X dX6_lift_57 rfl rfl (fun c57 => ?_) (fun c57 => ?_)
      · refine aw_ald3 X dX6_lift_70 rfl ?_
        refine aw_ild2 X dX6_lift_71 rfl ?_
        refine aw_put X fd_X6_230 fw_X0_6 dX6_lift_72 rfl htg (hF _ hkf).2 rfl rfl (Nat.le_of_ble_eq_true rfl) ?_
        refine aw_ald0 X dX6_lift_75 rfl ?_
        refine aw_get X fd_X6_19 dX6_lift_76 rfl ((hu_n (kk_ne hke (hF _ hkf).2 (show (8 : Nat) ≠ 2 by decide))).trans hke) rfl ?_
        refine aw_ald3 X dX6_lift_79 rfl ?_
        refine aw_ild2 X dX6_lift_80 rfl ?_
        have w9 := w0.fig hkf (upd (σ.Fx x) 5 y) rfl
        refine aw_callV X dX6_lift_81 rfl (k_X5_shadow X.1 (r := upd (σ.Fx x) 5 y) w9.2.2.1 y hu_s) cmX5_shadow ml_X6_233 rfl w9.2.2.1.1 rfl rfl (Nat.le_of_ble_eq_true rfl) ⟨Nat.le_of_ble_eq_true rfl, Nat.le_of_ble_eq_true rfl⟩ (aw_rs ?_)
        exact aw_vx (aw_iret X hret rfl dX6_lift_84 (PoN.mk (σ2 := σ.fig (iN x) (upd (σ.Fx x) 5 y)) (by unfold sp_lift; rw [if_neg (fun q => q (bI_y c5)), if_neg (bI_n c25), if_neg (fun q => q (bI_y c57))]; rfl) (by exact w9)))
      · exact aw_throw X th_eS (List.mem_of_getElem? (i := 3) rfl) hE dX6_lift_60 dX6_lift_63 (Or.inl ⟨dX6_lift_64, dX6_lift_66, dX6_lift_69⟩) (by decide) (Nat.le_of_ble_eq_true rfl) (PoX.mk (by unfold sp_lift; rw [if_neg (fun q => q (bI_y c5)), if_neg (bI_n c25), if_pos (bI_n c57)]) rfl)
    · exact aw_throw X th_eA (List.mem_of_getElem? (i := 2) rfl) hE dX6_lift_28 dX6_lift_31 (Or.inl ⟨dX6_lift_32, dX6_lift_34, dX6_lift_37⟩) (by decide) (Nat.le_of_ble_eq_true rfl) (PoX.mk (by unfold sp_lift; rw [if_neg (fun q => q (bI_y c5)), if_pos (bI_y c25)]) rfl)
  · exact aw_throw X th_eI (List.mem_of_getElem? (i := 1) rfl) hE dX6_lift_8 dX6_lift_11 (Or.inl ⟨dX6_lift_12, dX6_lift_14, dX6_lift_17⟩) (by decide) (Nat.le_of_ble_eq_true rfl) (PoX.mk (by unfold sp_lift; rw [if_pos (bI_n c5)]) rfl)

set_option maxHeartbeats 4000000 in
set_option maxRecDepth 100000 in
theorem k_X6_hand {l : Launch} {s0 : State} {a0 : Array Value} {G : GG} (X : CX l s0 a0 G) {h : AH} {tg ke : Nat} {A : KA} {σ : NS} (htg : tg ≠ 0) (w : KelW G h tg ke A σ) (x : Int32)  : ConX l s0 G yX6_hand cX6_hand 4 (some .int) 6 1 6 tg [.ref ke, .int x] h (PoN G tg ke (sp_hand σ x)) (PoX h σ [eI, eS] (sp_hand σ x)) := by
  refine ConX.of X (by decide +kernel) [some (.ref ke), some (.int x), none, none] rfl (Nat.le_of_ble_eq_true rfl) (fun p e s m below meth c X hnm hret hE => ?_)
  have w0 := w
  obtain ⟨hke, hpw, hsw, hoc, hd1, hd2, hd3, hd4⟩ := w
  have hpl := hpw.1
  have hlp := hpw.2.1
  have hls := hpw.2.2.1
  have hP := hpw.2.2.2.1
  have hS := hpw.2.2.2.2.1
  have hn8 := hpw.2.2.2.2.2.1
  have hn10 := hpw.2.2.2.2.2.2.1
  have hsc := hsw.1
  have hlf := hsw.2.1
  have hF := hsw.2.2.1
  have hn12 := hsw.2.2.2.1
  refine aw_ald0 X dX6_hand_0 rfl ?_
  refine aw_ild1 X dX6_hand_1 rfl ?_
  refine aw_callV X dX6_hand_2 rfl (k_X6_isFigure X.1 w0 _) cmX6_isFigure ml_X6_175 rfl hke rfl rfl (Nat.le_of_ble_eq_true rfl) ⟨Nat.le_of_ble_eq_true rfl, Nat.le_of_ble_eq_true rfl⟩ (aw_rs ?_)
  refine aw_if_ne (n2 := 18) X dX6_hand_5 rfl rfl (fun c5 => ?_) (fun c5 => ?_)
  · obtain ⟨hxk, hkf⟩ := cat_in (bI_y c5) (show σ.nf < 2 ^ 31 by omega)
    refine aw_ald0 X dX6_hand_18 rfl ?_
    refine aw_get X fd_X6_19 dX6_hand_19 rfl hke rfl ?_
    refine aw_get X fd_X6_98 dX6_hand_22 rfl hsc rfl ?_
    refine aw_ild1 X dX6_hand_25 rfl ?_
    refine aw_callV X dX6_hand_26 rfl (k_lget X.1 hlf hxk hkf (hF _ hkf).1) cmJx4a65c_get_915e3 ml_X6_105 rfl hlf.1 rfl rfl (Nat.le_of_ble_eq_true rfl) ⟨Nat.le_of_ble_eq_true rfl, Nat.le_of_ble_eq_true rfl⟩ (aw_rs ?_)
    refine aw_cast X dX6_hand_29 rfl rfl cc_X6_103 (hF _ hkf).2 ?_
    refine aw_ast2 X dX6_hand_32 rfl (by decide) rfl ?_
    refine aw_ald2 X dX6_hand_33 rfl ?_
    refine aw_get X fd_X6_186 dX6_hand_34 rfl (hF _ hkf).2 rfl ?_
    refine aw_iconst X (2) dX6_hand_37 (by decide) rfl ?_
    refine aw_icmp_ne (n2 := 45) X dX6_hand_38 rfl rfl (fun c38 => ?_) (fun c38 => ?_)
    · refine aw_iconst X (2) dX6_hand_45 (by decide) rfl ?_
      refine aw_ist3 X dX6_hand_46 rfl (by decide) rfl ?_
      have hO : othH σ x = 2 := if_neg c38
      refine aw_ald2 X dX6_hand_47 rfl ?_
      refine aw_callV X dX6_hand_48 rfl (k_inHand X.1 (hF _ hkf).2) cmX0_inHand ml_X6_202 rfl (hF _ hkf).2 rfl rfl (Nat.le_of_ble_eq_true rfl) ⟨Nat.le_of_ble_eq_true rfl, Nat.le_of_ble_eq_true rfl⟩ (aw_rs ?_)
      refine aw_if_eq (n2 := 69) X dX6_hand_51 rfl rfl (fun c51 => ?_) (fun c51 => ?_)
      · exact aw_throw X th_eS (List.mem_of_getElem? (i := 24) rfl) hE dX6_hand_69 dX6_hand_72 (Or.inl ⟨dX6_hand_73, dX6_hand_75, dX6_hand_78⟩) (by decide) (Nat.le_of_ble_eq_true rfl) (PoX.mk (by unfold sp_hand; rw [if_neg (fun q => q (bI_y c5)), if_pos (Or.inl (bI_n c51))]) rfl)
      · refine aw_ald0 X dX6_hand_54 rfl ?_
        refine aw_get X fd_X6_19 dX6_hand_55 rfl hke rfl ?_
        refine aw_ild3 X dX6_hand_58 rfl ?_
        refine aw_ald2 X dX6_hand_59 rfl ?_
        refine aw_get X fd_X6_194 dX6_hand_60 rfl (hF _ hkf).2 rfl ?_
        refine aw_callV X dX6_hand_63 rfl (k_X5_canTake X.1 hsw _ _) cmX5_canTake ml_X6_237 rfl hsc rfl rfl (Nat.le_of_ble_eq_true rfl) ⟨Nat.le_of_ble_eq_true rfl, Nat.le_of_ble_eq_true rfl⟩ (aw_rs ?_)
        refine aw_if_ne (n2 := 79) X dX6_hand_66 rfl rfl (fun c66 => ?_) (fun c66 => ?_)
        · refine aw_ald2 X dX6_hand_79 rfl ?_
          refine aw_ild3 X dX6_hand_80 rfl ?_
          refine aw_put X fd_X6_186 fw_X0_4 dX6_hand_81 rfl htg (hF _ hkf).2 rfl rfl (Nat.le_of_ble_eq_true rfl) ?_
          refine aw_ild3 X dX6_hand_84 rfl ?_
          exact aw_vx (aw_iret X hret rfl dX6_hand_85 (PoN.mk (σ2 := σ.fig (iN x) (upd (σ.Fx x) 3 2)) (by unfold sp_hand; rw [if_neg (fun q => q (bI_y c5)), if_neg (fun q => q.elim (fun z => z (bI_y c51)) (fun z => z (by rw [hO]; exact bI_y c66))), hO]) (by exact w0.fig hkf (upd (σ.Fx x) 3 2) rfl)))
        · exact aw_throw X th_eS (List.mem_of_getElem? (i := 24) rfl) hE dX6_hand_69 dX6_hand_72 (Or.inl ⟨dX6_hand_73, dX6_hand_75, dX6_hand_78⟩) (by decide) (Nat.le_of_ble_eq_true rfl) (PoX.mk (by unfold sp_hand; rw [if_neg (fun q => q (bI_y c5)), if_pos (Or.inr (by rw [hO]; exact bI_n c66))]) rfl)
    · refine aw_iconst X (3) dX6_hand_41 (by decide) rfl ?_
      refine aw_goto (n := 46) X dX6_hand_42 rfl ?_
      refine aw_ist3 X dX6_hand_46 rfl (by decide) rfl ?_
      have hO : othH σ x = 3 := if_pos c38
      refine aw_ald2 X dX6_hand_47 rfl ?_
      refine aw_callV X dX6_hand_48 rfl (k_inHand X.1 (hF _ hkf).2) cmX0_inHand ml_X6_202 rfl (hF _ hkf).2 rfl rfl (Nat.le_of_ble_eq_true rfl) ⟨Nat.le_of_ble_eq_true rfl, Nat.le_of_ble_eq_true rfl⟩ (aw_rs ?_)
      refine aw_if_eq (n2 := 69) X dX6_hand_51 rfl rfl (fun c51 => ?_) (fun c51 => ?_)
      · exact aw_throw X th_eS (List.mem_of_getElem? (i := 24) rfl) hE dX6_hand_69 dX6_hand_72 (Or.inl ⟨dX6_hand_73, dX6_hand_75, dX6_hand_78⟩) (by decide) (Nat.le_of_ble_eq_true rfl) (PoX.mk (by unfold sp_hand; rw [if_neg (fun q => q (bI_y c5)), if_pos (Or.inl (bI_n c51))]) rfl)
      · refine aw_ald0 X dX6_hand_54 rfl ?_
        refine aw_get X fd_X6_19 dX6_hand_55 rfl hke rfl ?_
        refine aw_ild3 X dX6_hand_58 rfl ?_
        refine aw_ald2 X dX6_hand_59 rfl ?_
        refine aw_get X fd_X6_194 dX6_hand_60 rfl (hF _ hkf).2 rfl ?_
        refine aw_callV X dX6_hand_63 rfl (k_X5_canTake X.1 hsw _ _) cmX5_canTake ml_X6_237 rfl hsc rfl rfl (Nat.le_of_ble_eq_true rfl) ⟨Nat.le_of_ble_eq_true rfl, Nat.le_of_ble_eq_true rfl⟩ (aw_rs ?_)
        refine aw_if_ne (n2 := 79) X dX6_hand_66 rfl rfl (fun c66 => ?_) (fun c66 => ?_)
        · refine aw_ald2 X dX6_hand_79 rfl ?_
          refine aw_ild3 X dX6_hand_80 rfl ?_
          refine aw_put X fd_X6_186 fw_X0_4 dX6_hand_81 rfl htg (hF _ hkf).2 rfl rfl (Nat.le_of_ble_eq_true rfl) ?_
          refine aw_ild3 X dX6_hand_84 rfl ?_
          exact aw_vx (aw_iret X hret rfl dX6_hand_85 (PoN.mk (σ2 := σ.fig (iN x) (upd (σ.Fx x) 3 3)) (by unfold sp_hand; rw [if_neg (fun q => q (bI_y c5)), if_neg (fun q => q.elim (fun z => z (bI_y c51)) (fun z => z (by rw [hO]; exact bI_y c66))), hO]) (by exact w0.fig hkf (upd (σ.Fx x) 3 3) rfl)))
        · exact aw_throw X th_eS (List.mem_of_getElem? (i := 24) rfl) hE dX6_hand_69 dX6_hand_72 (Or.inl ⟨dX6_hand_73, dX6_hand_75, dX6_hand_78⟩) (by decide) (Nat.le_of_ble_eq_true rfl) (PoX.mk (by unfold sp_hand; rw [if_neg (fun q => q (bI_y c5)), if_pos (Or.inr (by rw [hO]; exact bI_n c66))]) rfl)
  · exact aw_throw X th_eI (List.mem_of_getElem? (i := 1) rfl) hE dX6_hand_8 dX6_hand_11 (Or.inl ⟨dX6_hand_12, dX6_hand_14, dX6_hand_17⟩) (by decide) (Nat.le_of_ble_eq_true rfl) (PoX.mk (by unfold sp_hand; rw [if_pos (bI_n c5)]) rfl)

set_option maxHeartbeats 4000000 in
set_option maxRecDepth 100000 in
theorem k_X6_grip {l : Launch} {s0 : State} {a0 : Array Value} {G : GG} (X : CX l s0 a0 G) {h : AH} {tg ke : Nat} {A : KA} {σ : NS} (htg : tg ≠ 0) (w : KelW G h tg ke A σ) (x : Int32)  : ConX l s0 G yX6_grip cX6_grip 4 (some .int) 6 1 6 tg [.ref ke, .int x] h (PoN G tg ke (sp_grip σ x)) (PoX h σ [eI, eS] (sp_grip σ x)) := by
  refine ConX.of X (by decide +kernel) [some (.ref ke), some (.int x), none, none] rfl (Nat.le_of_ble_eq_true rfl) (fun p e s m below meth c X hnm hret hE => ?_)
  have w0 := w
  obtain ⟨hke, hpw, hsw, hoc, hd1, hd2, hd3, hd4⟩ := w
  have hpl := hpw.1
  have hlp := hpw.2.1
  have hls := hpw.2.2.1
  have hP := hpw.2.2.2.1
  have hS := hpw.2.2.2.2.1
  have hn8 := hpw.2.2.2.2.2.1
  have hn10 := hpw.2.2.2.2.2.2.1
  have hsc := hsw.1
  have hlf := hsw.2.1
  have hF := hsw.2.2.1
  have hn12 := hsw.2.2.2.1
  refine aw_ald0 X dX6_grip_0 rfl ?_
  refine aw_ild1 X dX6_grip_1 rfl ?_
  refine aw_callV X dX6_grip_2 rfl (k_X6_isFigure X.1 w0 _) cmX6_isFigure ml_X6_175 rfl hke rfl rfl (Nat.le_of_ble_eq_true rfl) ⟨Nat.le_of_ble_eq_true rfl, Nat.le_of_ble_eq_true rfl⟩ (aw_rs ?_)
  refine aw_if_ne (n2 := 18) X dX6_grip_5 rfl rfl (fun c5 => ?_) (fun c5 => ?_)
  · obtain ⟨hxk, hkf⟩ := cat_in (bI_y c5) (show σ.nf < 2 ^ 31 by omega)
    refine aw_ald0 X dX6_grip_18 rfl ?_
    refine aw_get X fd_X6_19 dX6_grip_19 rfl hke rfl ?_
    refine aw_get X fd_X6_98 dX6_grip_22 rfl hsc rfl ?_
    refine aw_ild1 X dX6_grip_25 rfl ?_
    refine aw_callV X dX6_grip_26 rfl (k_lget X.1 hlf hxk hkf (hF _ hkf).1) cmJx4a65c_get_915e3 ml_X6_105 rfl hlf.1 rfl rfl (Nat.le_of_ble_eq_true rfl) ⟨Nat.le_of_ble_eq_true rfl, Nat.le_of_ble_eq_true rfl⟩ (aw_rs ?_)
    refine aw_cast X dX6_grip_29 rfl rfl cc_X6_103 (hF _ hkf).2 ?_
    refine aw_ast2 X dX6_grip_32 rfl (by decide) rfl ?_
    refine aw_ald0 X dX6_grip_33 rfl ?_
    refine aw_get X fd_X6_19 dX6_grip_34 rfl hke rfl ?_
    refine aw_ald2 X dX6_grip_37 rfl ?_
    refine aw_callV X dX6_grip_38 rfl (k_X5_gripper X.1 hsw (hF _ hkf).2) cmX5_gripper ml_X6_180 rfl hsc rfl rfl (Nat.le_of_ble_eq_true rfl) ⟨Nat.le_of_ble_eq_true rfl, Nat.le_of_ble_eq_true rfl⟩ (aw_rs ?_)
    refine aw_ist3 X dX6_grip_41 rfl (by decide) rfl ?_
    refine aw_ild3 X dX6_grip_42 rfl ?_
    refine aw_iconst X (-1) dX6_grip_43 (by decide) rfl ?_
    refine aw_icmp_ne (n2 := 57) X dX6_grip_44 rfl rfl (fun c44 => ?_) (fun c44 => ?_)
    · refine aw_ald2 X dX6_grip_57 rfl ?_
      refine aw_get X fd_X6_186 dX6_grip_58 rfl (hF _ hkf).2 rfl ?_
      refine aw_if_ne (n2 := 75) X dX6_grip_61 rfl rfl (fun c61 => ?_) (fun c61 => ?_)
      · refine aw_ald2 X dX6_grip_75 rfl ?_
        refine aw_ild3 X dX6_grip_76 rfl ?_
        refine aw_put X fd_X6_186 fw_X0_4 dX6_grip_77 rfl htg (hF _ hkf).2 rfl rfl (Nat.le_of_ble_eq_true rfl) ?_
        refine aw_ild3 X dX6_grip_80 rfl ?_
        exact aw_vx (aw_iret X hret rfl dX6_grip_81 (PoN.mk (σ2 := σ.fig (iN x) (upd (σ.Fx x) 3 (gripS (sdS σ (iN x)) (σ.Fx x) σ.F σ.nf))) (by unfold sp_grip; rw [if_neg (fun q => q (bI_y c5)), if_neg c44, if_neg c61]) (by exact w0.fig hkf (upd (σ.Fx x) 3 (gripS (sdS σ (iN x)) (σ.Fx x) σ.F σ.nf)) rfl)))
      · refine aw_ald2 X dX6_grip_64 rfl ?_
        refine aw_ald2 X dX6_grip_65 rfl ?_
        refine aw_get X fd_X6_189 dX6_grip_66 rfl (hF _ hkf).2 rfl ?_
        refine aw_callS X dX6_grip_69 rfl (k_X6_edge X.1 _) cmX6_edge ml_X6_190 rfl rfl (Nat.le_of_ble_eq_true rfl) ⟨Nat.le_of_ble_eq_true rfl, Nat.le_of_ble_eq_true rfl⟩ (aw_rs ?_)
        refine aw_put X fd_X6_194 fw_X0_5 dX6_grip_72 rfl htg (hF _ hkf).2 rfl rfl (Nat.le_of_ble_eq_true rfl) ?_
        refine aw_ald2 X dX6_grip_75 rfl ?_
        refine aw_ild3 X dX6_grip_76 rfl ?_
        refine aw_put X fd_X6_186 fw_X0_4 dX6_grip_77 rfl htg hu_s rfl rfl (Nat.le_of_ble_eq_true rfl) ?_
        refine aw_ild3 X dX6_grip_80 rfl ?_
        exact aw_vx (aw_iret X hret rfl dX6_grip_81 (PoN.mk (σ2 := σ.fig (iN x) (upd (upd (σ.Fx x) 4 (if sdS σ (iN x) = 0 then 0 else 9)) 3 (gripS (sdS σ (iN x)) (σ.Fx x) σ.F σ.nf))) (by unfold sp_grip; rw [if_neg (fun q => q (bI_y c5)), if_neg c44, if_pos c61]) (by rw [hu_hu]; exact w0.fig hkf (upd (upd (σ.Fx x) 4 (if sdS σ (iN x) = 0 then 0 else 9)) 3 (gripS (sdS σ (iN x)) (σ.Fx x) σ.F σ.nf)) rfl)))
    · exact aw_throw X th_eS (List.mem_of_getElem? (i := 23) rfl) hE dX6_grip_47 dX6_grip_50 (Or.inl ⟨dX6_grip_51, dX6_grip_53, dX6_grip_56⟩) (by decide) (Nat.le_of_ble_eq_true rfl) (PoX.mk (by unfold sp_grip; rw [if_neg (fun q => q (bI_y c5)), if_pos c44]) rfl)
  · exact aw_throw X th_eI (List.mem_of_getElem? (i := 1) rfl) hE dX6_grip_8 dX6_grip_11 (Or.inl ⟨dX6_grip_12, dX6_grip_14, dX6_grip_17⟩) (by decide) (Nat.le_of_ble_eq_true rfl) (PoX.mk (by unfold sp_grip; rw [if_pos (bI_n c5)]) rfl)

set_option maxHeartbeats 4000000 in
set_option maxRecDepth 100000 in
theorem k_X6_move {l : Launch} {s0 : State} {a0 : Array Value} {G : GG} (X : CX l s0 a0 G) {h : AH} {tg ke : Nat} {A : KA} {σ : NS} (htg : tg ≠ 0) (w : KelW G h tg ke A σ) (x : Int32) (y : Int32)  : ConX l s0 G yX6_move cX6_move 4 (some .int) 6 1 6 tg [.ref ke, .int x, .int y] h (PoN G tg ke (sp_move σ x y)) (PoX h σ [eI, eA, eS] (sp_move σ x y)) := by
  refine ConX.of X (by decide +kernel) [some (.ref ke), some (.int x), some (.int y), none] rfl (Nat.le_of_ble_eq_true rfl) (fun p e s m below meth c X hnm hret hE => ?_)
  have w0 := w
  obtain ⟨hke, hpw, hsw, hoc, hd1, hd2, hd3, hd4⟩ := w
  have hpl := hpw.1
  have hlp := hpw.2.1
  have hls := hpw.2.2.1
  have hP := hpw.2.2.2.1
  have hS := hpw.2.2.2.2.1
  have hn8 := hpw.2.2.2.2.2.1
  have hn10 := hpw.2.2.2.2.2.2.1
  have hsc := hsw.1
  have hlf := hsw.2.1
  have hF := hsw.2.2.1
  have hn12 := hsw.2.2.2.1
  refine aw_ald0 X dX6_move_0 rfl ?_
  refine aw_ild1 X dX6_move_1 rfl ?_
  refine aw_callV X dX6_move_2 rfl (k_X6_isFigure X.1 w0 _) cmX6_isFigure ml_X6_175 rfl hke rfl rfl (Nat.le_of_ble_eq_true rfl) ⟨Nat.le_of_ble_eq_true rfl, Nat.le_of_ble_eq_true rfl⟩ (aw_rs ?_)
  refine aw_if_ne (n2 := 18) X dX6_move_5 rfl rfl (fun c5 => ?_) (fun c5 => ?_)
  · obtain ⟨hxk, hkf⟩ := cat_in (bI_y c5) (show σ.nf < 2 ^ 31 by omega)
    refine aw_ild2 X dX6_move_18 rfl ?_
    refine aw_callS X dX6_move_19 rfl (k_X6_isPlace X.1 _) cmX6_isPlace ml_X6_197 rfl rfl (Nat.le_of_ble_eq_true rfl) ⟨Nat.le_of_ble_eq_true rfl, Nat.le_of_ble_eq_true rfl⟩ (aw_rs ?_)
    refine aw_if_ne (n2 := 35) X dX6_move_22 rfl rfl (fun c22 => ?_) (fun c22 => ?_)
    · refine aw_ald0 X dX6_move_35 rfl ?_
      refine aw_get X fd_X6_19 dX6_move_36 rfl hke rfl ?_
      refine aw_get X fd_X6_98 dX6_move_39 rfl hsc rfl ?_
      refine aw_ild1 X dX6_move_42 rfl ?_
      refine aw_callV X dX6_move_43 rfl (k_lget X.1 hlf hxk hkf (hF _ hkf).1) cmJx4a65c_get_915e3 ml_X6_105 rfl hlf.1 rfl rfl (Nat.le_of_ble_eq_true rfl) ⟨Nat.le_of_ble_eq_true rfl, Nat.le_of_ble_eq_true rfl⟩ (aw_rs ?_)
      refine aw_cast X dX6_move_46 rfl rfl cc_X6_103 (hF _ hkf).2 ?_
      refine aw_ast3 X dX6_move_49 rfl (by decide) rfl ?_
      refine aw_ald3 X dX6_move_50 rfl ?_
      refine aw_callV X dX6_move_51 rfl (k_inHand X.1 (hF _ hkf).2) cmX0_inHand ml_X6_202 rfl (hF _ hkf).2 rfl rfl (Nat.le_of_ble_eq_true rfl) ⟨Nat.le_of_ble_eq_true rfl, Nat.le_of_ble_eq_true rfl⟩ (aw_rs ?_)
      refine aw_if_eq (n2 := 80) X dX6_move_54 rfl rfl (fun c54 => ?_) (fun c54 => ?_)
      · exact aw_throw X th_eS (List.mem_of_getElem? (i := 26) rfl) hE dX6_move_80 dX6_move_83 (Or.inl ⟨dX6_move_84, dX6_move_86, dX6_move_89⟩) (by decide) (Nat.le_of_ble_eq_true rfl) (PoX.mk (by unfold sp_move; rw [if_neg (fun q => q (bI_y c5)), if_neg (fun q => q (bI_y c22)), if_pos (Or.inl (bI_n c54))]) rfl)
      · refine aw_ald3 X dX6_move_57 rfl ?_
        refine aw_get X fd_X6_186 dX6_move_58 rfl (hF _ hkf).2 rfl ?_
        refine aw_ild2 X dX6_move_61 rfl ?_
        refine aw_callS X dX6_move_62 rfl (k_X6_reaches X.1 _ _) cmX6_reaches ml_X6_206 rfl rfl (Nat.le_of_ble_eq_true rfl) ⟨Nat.le_of_ble_eq_true rfl, Nat.le_of_ble_eq_true rfl⟩ (aw_rs ?_)
        refine aw_if_eq (n2 := 80) X dX6_move_65 rfl rfl (fun c65 => ?_) (fun c65 => ?_)
        · exact aw_throw X th_eS (List.mem_of_getElem? (i := 26) rfl) hE dX6_move_80 dX6_move_83 (Or.inl ⟨dX6_move_84, dX6_move_86, dX6_move_89⟩) (by decide) (Nat.le_of_ble_eq_true rfl) (PoX.mk (by unfold sp_move; rw [if_neg (fun q => q (bI_y c5)), if_neg (fun q => q (bI_y c22)), if_pos (Or.inr (Or.inl (bI_n c65)))]) rfl)
        · refine aw_ald0 X dX6_move_68 rfl ?_
          refine aw_get X fd_X6_19 dX6_move_69 rfl hke rfl ?_
          refine aw_ild2 X dX6_move_72 rfl ?_
          refine aw_callV X dX6_move_73 rfl (k_figAt X.1 w0 _) cmX5_figureAt ml_X6_209 rfl hsc rfl rfl (Nat.le_of_ble_eq_true rfl) ⟨Nat.le_of_ble_eq_true rfl, Nat.le_of_ble_eq_true rfl⟩ (aw_rs ?_)
          refine aw_iconst X (-1) dX6_move_76 (by decide) rfl ?_
          refine aw_icmp_eq (n2 := 90) X dX6_move_77 rfl rfl (fun c77 => ?_) (fun c77 => ?_)
          · refine aw_ald3 X dX6_move_90 rfl ?_
            refine aw_ild2 X dX6_move_91 rfl ?_
            refine aw_ald3 X dX6_move_92 rfl ?_
            refine aw_get X fd_X6_194 dX6_move_93 rfl (hF _ hkf).2 rfl ?_
            refine aw_isub X dX6_move_96 rfl ?_
            refine aw_mabs X dX6_move_97 rfl ⟨ml_X6_214, mm_abs⟩ (Nat.le_of_ble_eq_true rfl) (Nat.le_of_ble_eq_true rfl) ?_
            refine aw_callV X dX6_move_100 rfl (k_wearBy X.1 htg (absI (y - σ.Fx x 4)) (hF _ hkf).2) cmX0_wearBy ml_X6_219 rfl (hF _ hkf).2 rfl rfl (Nat.le_of_ble_eq_true rfl) ⟨Nat.le_of_ble_eq_true rfl, Nat.le_of_ble_eq_true rfl⟩ (aw_rv ?_)
            refine aw_ald3 X dX6_move_103 rfl ?_
            refine aw_ild2 X dX6_move_104 rfl ?_
            refine aw_put X fd_X6_194 fw_X0_5 dX6_move_105 rfl htg hu_s rfl rfl (Nat.le_of_ble_eq_true rfl) ?_
            refine aw_ald3 X dX6_move_108 rfl ?_
            refine aw_get X fd_X6_223 dX6_move_109 rfl hu_s rfl ?_
            exact aw_vx (aw_iret X hret rfl dX6_move_112 (PoN.mk (σ2 := σ.fig (iN x) (upd (wearR (σ.Fx x) (absI (y - σ.Fx x 4))) 4 y)) (by unfold sp_move; rw [if_neg (fun q => q (bI_y c5)), if_neg (fun q => q (bI_y c22)), if_neg (fun q => q.elim (fun z => z (bI_y c54)) (fun z => z.elim (fun z => z (bI_y c65)) (fun z => z c77)))]) (by rw [hu_hu]; exact w0.fig hkf (upd (wearR (σ.Fx x) (absI (y - σ.Fx x 4))) 4 y) rfl)))
          · exact aw_throw X th_eS (List.mem_of_getElem? (i := 26) rfl) hE dX6_move_80 dX6_move_83 (Or.inl ⟨dX6_move_84, dX6_move_86, dX6_move_89⟩) (by decide) (Nat.le_of_ble_eq_true rfl) (PoX.mk (by unfold sp_move; rw [if_neg (fun q => q (bI_y c5)), if_neg (fun q => q (bI_y c22)), if_pos (Or.inr (Or.inr c77))]) rfl)
    · exact aw_throw X th_eA (List.mem_of_getElem? (i := 14) rfl) hE dX6_move_25 dX6_move_28 (Or.inl ⟨dX6_move_29, dX6_move_31, dX6_move_34⟩) (by decide) (Nat.le_of_ble_eq_true rfl) (PoX.mk (by unfold sp_move; rw [if_neg (fun q => q (bI_y c5)), if_pos (bI_n c22)]) rfl)
  · exact aw_throw X th_eI (List.mem_of_getElem? (i := 1) rfl) hE dX6_move_8 dX6_move_11 (Or.inl ⟨dX6_move_12, dX6_move_14, dX6_move_17⟩) (by decide) (Nat.le_of_ble_eq_true rfl) (PoX.mk (by unfold sp_move; rw [if_pos (bI_n c5)]) rfl)

set_option maxHeartbeats 4000000 in
set_option maxRecDepth 100000 in
theorem k_X6_away {l : Launch} {s0 : State} {a0 : Array Value} {G : GG} (X : CX l s0 a0 G) {h : AH} {tg ke : Nat} {A : KA} {σ : NS} (htg : tg ≠ 0) (w : KelW G h tg ke A σ) (x : Int32)  : ConX l s0 G yX6_away cX6_away 3 (some .int) 6 1 6 tg [.ref ke, .int x] h (PoN G tg ke (sp_away σ x)) (PoX h σ [eI, eS] (sp_away σ x)) := by
  refine ConX.of X (by decide +kernel) [some (.ref ke), some (.int x), none] rfl (Nat.le_of_ble_eq_true rfl) (fun p e s m below meth c X hnm hret hE => ?_)
  have w0 := w
  obtain ⟨hke, hpw, hsw, hoc, hd1, hd2, hd3, hd4⟩ := w
  have hpl := hpw.1
  have hlp := hpw.2.1
  have hls := hpw.2.2.1
  have hP := hpw.2.2.2.1
  have hS := hpw.2.2.2.2.1
  have hn8 := hpw.2.2.2.2.2.1
  have hn10 := hpw.2.2.2.2.2.2.1
  have hsc := hsw.1
  have hlf := hsw.2.1
  have hF := hsw.2.2.1
  have hn12 := hsw.2.2.2.1
  refine aw_ald0 X dX6_away_0 rfl ?_
  refine aw_ild1 X dX6_away_1 rfl ?_
  refine aw_callV X dX6_away_2 rfl (k_X6_isFigure X.1 w0 _) cmX6_isFigure ml_X6_175 rfl hke rfl rfl (Nat.le_of_ble_eq_true rfl) ⟨Nat.le_of_ble_eq_true rfl, Nat.le_of_ble_eq_true rfl⟩ (aw_rs ?_)
  refine aw_if_ne (n2 := 18) X dX6_away_5 rfl rfl (fun c5 => ?_) (fun c5 => ?_)
  · obtain ⟨hxk, hkf⟩ := cat_in (bI_y c5) (show σ.nf < 2 ^ 31 by omega)
    refine aw_ald0 X dX6_away_18 rfl ?_
    refine aw_get X fd_X6_19 dX6_away_19 rfl hke rfl ?_
    refine aw_get X fd_X6_98 dX6_away_22 rfl hsc rfl ?_
    refine aw_ild1 X dX6_away_25 rfl ?_
    refine aw_callV X dX6_away_26 rfl (k_lget X.1 hlf hxk hkf (hF _ hkf).1) cmJx4a65c_get_915e3 ml_X6_105 rfl hlf.1 rfl rfl (Nat.le_of_ble_eq_true rfl) ⟨Nat.le_of_ble_eq_true rfl, Nat.le_of_ble_eq_true rfl⟩ (aw_rs ?_)
    refine aw_cast X dX6_away_29 rfl rfl cc_X6_103 (hF _ hkf).2 ?_
    refine aw_ast2 X dX6_away_32 rfl (by decide) rfl ?_
    refine aw_ald2 X dX6_away_33 rfl ?_
    refine aw_callV X dX6_away_34 rfl (k_inHand X.1 (hF _ hkf).2) cmX0_inHand ml_X6_202 rfl (hF _ hkf).2 rfl rfl (Nat.le_of_ble_eq_true rfl) ⟨Nat.le_of_ble_eq_true rfl, Nat.le_of_ble_eq_true rfl⟩ (aw_rs ?_)
    refine aw_if_eq (n2 := 54) X dX6_away_37 rfl rfl (fun c37 => ?_) (fun c37 => ?_)
    · exact aw_throw X th_eS (List.mem_of_getElem? (i := 25) rfl) hE dX6_away_54 dX6_away_57 (Or.inl ⟨dX6_away_58, dX6_away_60, dX6_away_63⟩) (by decide) (Nat.le_of_ble_eq_true rfl) (PoX.mk (by unfold sp_away; rw [if_neg (fun q => q (bI_y c5)), if_pos (Or.inl (bI_n c37))]) rfl)
    · refine aw_ald2 X dX6_away_40 rfl ?_
      refine aw_get X fd_X6_194 dX6_away_41 rfl (hF _ hkf).2 rfl ?_
      refine aw_ald2 X dX6_away_44 rfl ?_
      refine aw_get X fd_X6_189 dX6_away_45 rfl (hF _ hkf).2 rfl ?_
      refine aw_callS X dX6_away_48 rfl (k_X6_edge X.1 _) cmX6_edge ml_X6_190 rfl rfl (Nat.le_of_ble_eq_true rfl) ⟨Nat.le_of_ble_eq_true rfl, Nat.le_of_ble_eq_true rfl⟩ (aw_rs ?_)
      refine aw_icmp_eq (n2 := 64) X dX6_away_51 rfl rfl (fun c51 => ?_) (fun c51 => ?_)
      · refine aw_ald2 X dX6_away_64 rfl ?_
        refine aw_iconst X (0) dX6_away_65 (by decide) rfl ?_
        refine aw_put X fd_X6_186 fw_X0_4 dX6_away_66 rfl htg (hF _ hkf).2 rfl rfl (Nat.le_of_ble_eq_true rfl) ?_
        refine aw_ald2 X dX6_away_69 rfl ?_
        refine aw_iconst X (-1) dX6_away_70 (by decide) rfl ?_
        refine aw_put X fd_X6_194 fw_X0_5 dX6_away_71 rfl htg hu_s rfl rfl (Nat.le_of_ble_eq_true rfl) ?_
        refine aw_ald2 X dX6_away_74 rfl ?_
        refine aw_iconst X (0) dX6_away_75 (by decide) rfl ?_
        refine aw_put X fd_X6_230 fw_X0_6 dX6_away_76 rfl htg hu_s rfl rfl (Nat.le_of_ble_eq_true rfl) ?_
        rw [hu_hu, hu_hu]
        have w9 := w0.fig hkf (awayR (σ.Fx x)) rfl
        refine aw_ald0 X dX6_away_79 rfl ?_
        refine aw_get X fd_X6_19 dX6_away_80 rfl w9.1 rfl ?_
        refine aw_callV X dX6_away_83 rfl (k_X5_shownFigures X.1 w9.2.2.1) cmX5_shownFigures ml_X6_244 rfl w9.2.2.1.1 rfl rfl (Nat.le_of_ble_eq_true rfl) ⟨Nat.le_of_ble_eq_true rfl, Nat.le_of_ble_eq_true rfl⟩ (aw_rs ?_)
        exact aw_vx (aw_iret X hret rfl dX6_away_86 (PoN.mk (σ2 := σ.fig (iN x) (awayR (σ.Fx x))) (by unfold sp_away; rw [if_neg (fun q => q (bI_y c5)), if_neg (fun q => q.elim (fun z => z (bI_y c37)) (fun z => z c51))]; rfl) (by exact w9)))
      · exact aw_throw X th_eS (List.mem_of_getElem? (i := 25) rfl) hE dX6_away_54 dX6_away_57 (Or.inl ⟨dX6_away_58, dX6_away_60, dX6_away_63⟩) (by decide) (Nat.le_of_ble_eq_true rfl) (PoX.mk (by unfold sp_away; rw [if_neg (fun q => q (bI_y c5)), if_pos (Or.inr c51)]) rfl)
  · exact aw_throw X th_eI (List.mem_of_getElem? (i := 1) rfl) hE dX6_away_8 dX6_away_11 (Or.inl ⟨dX6_away_12, dX6_away_14, dX6_away_17⟩) (by decide) (Nat.le_of_ble_eq_true rfl) (PoX.mk (by unfold sp_away; rw [if_pos (bI_n c5)]) rfl)

set_option maxHeartbeats 4000000 in
set_option maxRecDepth 100000 in
theorem k_X6_tap {l : Launch} {s0 : State} {a0 : Array Value} {G : GG} (X : CX l s0 a0 G) {h : AH} {tg ke : Nat} {A : KA} {σ : NS} (htg : tg ≠ 0) (w : KelW G h tg ke A σ) (x : Int32)  : ConX l s0 G yX6_tap cX6_tap 3 (some .boolean) 6 1 6 tg [.ref ke, .int x] h (PoN G tg ke (sp_tap σ x)) (PoX h σ [eA] (sp_tap σ x)) := by
  refine ConX.of X (by decide +kernel) [some (.ref ke), some (.int x), none] rfl (Nat.le_of_ble_eq_true rfl) (fun p e s m below meth c X hnm hret hE => ?_)
  have w0 := w
  obtain ⟨hke, hpw, hsw, hoc, hd1, hd2, hd3, hd4⟩ := w
  have hpl := hpw.1
  have hlp := hpw.2.1
  have hls := hpw.2.2.1
  have hP := hpw.2.2.2.1
  have hS := hpw.2.2.2.2.1
  have hn8 := hpw.2.2.2.2.2.1
  have hn10 := hpw.2.2.2.2.2.2.1
  have hsc := hsw.1
  have hlf := hsw.2.1
  have hF := hsw.2.2.1
  have hn12 := hsw.2.2.2.1
  refine aw_ild1 X dX6_tap_0 rfl ?_
  refine aw_iconst X (0) dX6_tap_1 (by decide) rfl ?_
  refine aw_iconst X (3) dX6_tap_2 (by decide) rfl ?_
  refine aw_callS X dX6_tap_3 rfl (k_X6_outside X.1 _ _ _) cmX6_outside ml_X6_52 rfl rfl (Nat.le_of_ble_eq_true rfl) ⟨Nat.le_of_ble_eq_true rfl, Nat.le_of_ble_eq_true rfl⟩ (aw_rs ?_)
  refine aw_if_eq (n2 := 19) X dX6_tap_6 rfl rfl (fun c6 => ?_) (fun c6 => ?_)
  · refine aw_ild1 X dX6_tap_19 rfl ?_
    refine aw_if_ne (n2 := 30) X dX6_tap_20 rfl rfl (fun c20 => ?_) (fun c20 => ?_)
    · refine aw_ald0 X dX6_tap_30 rfl ?_
      refine aw_get X fd_X6_26 dX6_tap_31 rfl hke rfl ?_
      refine aw_ild1 X dX6_tap_34 rfl ?_
      refine aw_callV X dX6_tap_35 rfl (k_X1_bid X.1 htg hoc x) cmX1_bid ml_X6_252 rfl hoc rfl rfl (Nat.le_of_ble_eq_true rfl) ⟨Nat.le_of_ble_eq_true rfl, Nat.le_of_ble_eq_true rfl⟩ (fun r h2 hq hf => ?_)
      rcases hq with ⟨e1, rfl, rfl⟩ | ⟨e0, rfl, rfl⟩
      · skip
        refine aw_ist2 X dX6_tap_38 rfl (by decide) rfl ?_
        refine aw_ild2 X dX6_tap_39 rfl ?_
        refine aw_if_ne (n2 := 53) X dX6_tap_40 rfl rfl (fun c40 => ?_) (fun c40 => absurd c40 (by decide))
        refine aw_ild2 X dX6_tap_53 rfl ?_
        exact aw_vx (aw_iret X hret rfl dX6_tap_54 (PoN.mk (σ2 := σ.wO (upd σ.o 3 x)) (by unfold sp_tap; rw [if_neg (bI_n c6), if_neg c20, if_neg e1]) (by exact w0.orc _)))
      · skip
        refine aw_ist2 X dX6_tap_38 rfl (by decide) rfl ?_
        refine aw_ild2 X dX6_tap_39 rfl ?_
        refine aw_if_ne (n2 := 53) X dX6_tap_40 rfl rfl (fun c40 => absurd rfl c40) (fun c40 => ?_)
        refine aw_ald0 X dX6_tap_43 rfl ?_
        refine aw_dup X dX6_tap_44 rfl rfl ?_
        refine aw_get X fd_X6_43 dX6_tap_45 rfl hke rfl ?_
        refine aw_iconst X (1) dX6_tap_48 (by decide) rfl ?_
        refine aw_iadd X dX6_tap_49 rfl ?_
        refine aw_put X fd_X6_43 fw_X6_7 dX6_tap_50 rfl htg hke rfl rfl (Nat.le_of_ble_eq_true rfl) ?_
        refine aw_ild2 X dX6_tap_53 rfl ?_
        exact aw_vx (aw_iret X hret rfl dX6_tap_54 (PoN.mk (σ2 := σ.up 4 (σ.ms + 1)) (by unfold sp_tap; rw [if_neg (bI_n c6), if_neg c20, if_pos e0]) (by exact w0.own (upd σ.v 4 (σ.ms + 1)))))
    · refine aw_ald0 X dX6_tap_23 rfl ?_
      refine aw_callV X dX6_tap_24 rfl (k_X6_beginPiece X.1 htg w0) cmX6_beginPiece ml_X6_249 rfl hke rfl rfl (Nat.le_of_ble_eq_true rfl) ⟨Nat.le_of_ble_eq_true rfl, Nat.le_of_ble_eq_true rfl⟩ (fun r h2 hq hf => ?_)
      rcases hq with ⟨e0, rfl, rfl⟩ | ⟨e1, e2, rfl, hw2⟩
      · skip
        refine aw_goto (n := 38) X dX6_tap_27 rfl ?_
        refine aw_ist2 X dX6_tap_38 rfl (by decide) rfl ?_
        refine aw_ild2 X dX6_tap_39 rfl ?_
        refine aw_if_ne (n2 := 53) X dX6_tap_40 rfl rfl (fun c40 => absurd rfl c40) (fun c40 => ?_)
        refine aw_ald0 X dX6_tap_43 rfl ?_
        refine aw_dup X dX6_tap_44 rfl rfl ?_
        refine aw_get X fd_X6_43 dX6_tap_45 rfl hke rfl ?_
        refine aw_iconst X (1) dX6_tap_48 (by decide) rfl ?_
        refine aw_iadd X dX6_tap_49 rfl ?_
        refine aw_put X fd_X6_43 fw_X6_7 dX6_tap_50 rfl htg hke rfl rfl (Nat.le_of_ble_eq_true rfl) ?_
        refine aw_ild2 X dX6_tap_53 rfl ?_
        exact aw_vx (aw_iret X hret rfl dX6_tap_54 (PoN.mk (σ2 := σ.up 4 (σ.ms + 1)) (by unfold sp_tap; rw [if_neg (bI_n c6), if_pos c20, if_pos e0]) (by exact w0.own (upd σ.v 4 (σ.ms + 1)))))
      · skip
        refine aw_goto (n := 38) X dX6_tap_27 rfl ?_
        refine aw_ist2 X dX6_tap_38 rfl (by decide) rfl ?_
        refine aw_ild2 X dX6_tap_39 rfl ?_
        refine aw_if_ne (n2 := 53) X dX6_tap_40 rfl rfl (fun c40 => ?_) (fun c40 => absurd c40 (by decide))
        refine aw_ild2 X dX6_tap_53 rfl ?_
        exact aw_vx (aw_iret X hret rfl dX6_tap_54 (PoN.mk (σ2 := σ.wO (obeg σ.o (σ.S (iN (onS σ)) 1))) (by unfold sp_tap; rw [if_neg (bI_n c6), if_pos c20, if_neg (fun q => q.elim e1 (fun z => z e2))]) (by exact hw2)))
  · exact aw_throw X th_eA (List.mem_of_getElem? (i := 4) rfl) hE dX6_tap_9 dX6_tap_12 (Or.inl ⟨dX6_tap_13, dX6_tap_15, dX6_tap_18⟩) (by decide) (Nat.le_of_ble_eq_true rfl) (PoX.mk (by unfold sp_tap; rw [if_pos (bI_y c6)]) rfl)

set_option maxHeartbeats 4000000 in
set_option maxRecDepth 100000 in
theorem k_X6_knows {l : Launch} {s0 : State} {a0 : Array Value} {G : GG} (X : CX l s0 a0 G) {h : AH} {tg ke : Nat} {A : KA} {σ : NS} (w : KelW G h tg ke A σ) (x : Int32) (y : Int32)  : ConX l s0 G yX6_knows cX6_knows 3 (some .boolean) 6 1 6 tg [.ref ke, .int x, .int y] h (PoN G tg ke (sp_knows σ x y)) (PoX h σ [eI] (sp_knows σ x y)) := by
  refine ConX.of X (by decide +kernel) [some (.ref ke), some (.int x), some (.int y)] rfl (Nat.le_of_ble_eq_true rfl) (fun p e s m below meth c X hnm hret hE => ?_)
  have w0 := w
  obtain ⟨hke, hpw, hsw, hoc, hd1, hd2, hd3, hd4⟩ := w
  have hpl := hpw.1
  have hlp := hpw.2.1
  have hls := hpw.2.2.1
  have hP := hpw.2.2.2.1
  have hS := hpw.2.2.2.2.1
  have hn8 := hpw.2.2.2.2.2.1
  have hn10 := hpw.2.2.2.2.2.2.1
  have hsc := hsw.1
  have hlf := hsw.2.1
  have hF := hsw.2.2.1
  have hn12 := hsw.2.2.2.1
  refine aw_ald0 X dX6_knows_0 rfl ?_
  refine aw_ild1 X dX6_knows_1 rfl ?_
  refine aw_callV X dX6_knows_2 rfl (k_X6_isPerson X.1 w0 _) cmX6_isPerson ml_X6_87 rfl hke rfl rfl (Nat.le_of_ble_eq_true rfl) ⟨Nat.le_of_ble_eq_true rfl, Nat.le_of_ble_eq_true rfl⟩ (aw_rs ?_)
  refine aw_if_eq (n2 := 21) X dX6_knows_5 rfl rfl (fun c5 => ?_) (fun c5 => ?_)
  · exact aw_throw X th_eI (List.mem_of_getElem? (i := 27) rfl) hE dX6_knows_21 dX6_knows_24 (Or.inr ⟨dX6_knows_25, dX6_knows_28, dX6_knows_31⟩) (by decide) (Nat.le_of_ble_eq_true rfl) (PoX.mk (by unfold sp_knows; rw [if_pos (Or.inl (bI_n c5))]) rfl)
  · refine aw_ild2 X dX6_knows_8 rfl ?_
    refine aw_iconst X (-1) dX6_knows_9 (by decide) rfl ?_
    refine aw_icmp_eq (n2 := 32) X dX6_knows_10 rfl rfl (fun c10 => ?_) (fun c10 => ?_)
    · subst c10
      refine aw_ald0 X dX6_knows_32 rfl ?_
      refine aw_get X fd_X6_10 dX6_knows_33 rfl hke rfl ?_
      refine aw_ild2 X dX6_knows_36 rfl ?_
      refine aw_callV X dX6_knows_37 rfl (k_knB0 X.1 hpw) cmX3_knowersBehind ml_X6_292 rfl hpl rfl rfl (Nat.le_of_ble_eq_true rfl) ⟨Nat.le_of_ble_eq_true rfl, Nat.le_of_ble_eq_true rfl⟩ (aw_rs ?_)
      refine aw_ild1 X dX6_knows_40 rfl ?_
      refine aw_callS X dX6_knows_41 rfl (k_X6_holds X.1 _ _) cmX6_holds ml_X6_260 rfl rfl (Nat.le_of_ble_eq_true rfl) ⟨Nat.le_of_ble_eq_true rfl, Nat.le_of_ble_eq_true rfl⟩ (aw_rs ?_)
      exact aw_vx (aw_iret X hret bI_nar dX6_knows_44 (PoN.mk (by unfold sp_knows; rw [if_neg (fun q => q.elim (fun z => z (bI_y c5)) (fun z => z.1 rfl))]; rfl) w0))
    · refine aw_ald0 X dX6_knows_13 rfl ?_
      refine aw_ild2 X dX6_knows_14 rfl ?_
      refine aw_callV X dX6_knows_15 rfl (k_X6_isScene X.1 w0 _) cmX6_isScene ml_X6_140 rfl hke rfl rfl (Nat.le_of_ble_eq_true rfl) ⟨Nat.le_of_ble_eq_true rfl, Nat.le_of_ble_eq_true rfl⟩ (aw_rs ?_)
      refine aw_if_ne (n2 := 32) X dX6_knows_18 rfl rfl (fun c18 => ?_) (fun c18 => ?_)
      · obtain ⟨hyk, hkf⟩ := cat_in (bI_y c18) (show σ.ns < 2 ^ 31 by omega)
        refine aw_ald0 X dX6_knows_32 rfl ?_
        refine aw_get X fd_X6_10 dX6_knows_33 rfl hke rfl ?_
        refine aw_ild2 X dX6_knows_36 rfl ?_
        refine aw_callV X dX6_knows_37 rfl (k_knB X.1 hpw hyk hkf) cmX3_knowersBehind ml_X6_292 rfl hpl rfl rfl (Nat.le_of_ble_eq_true rfl) ⟨Nat.le_of_ble_eq_true rfl, Nat.le_of_ble_eq_true rfl⟩ (aw_rs ?_)
        refine aw_ild1 X dX6_knows_40 rfl ?_
        refine aw_callS X dX6_knows_41 rfl (k_X6_holds X.1 _ _) cmX6_holds ml_X6_260 rfl rfl (Nat.le_of_ble_eq_true rfl) ⟨Nat.le_of_ble_eq_true rfl, Nat.le_of_ble_eq_true rfl⟩ (aw_rs ?_)
        exact aw_vx (aw_iret X hret bI_nar dX6_knows_44 (PoN.mk (by unfold sp_knows; rw [if_neg (fun q => q.elim (fun z => z (bI_y c5)) (fun z => z.2 (bI_y c18)))]; unfold knS; rw [if_neg c10]; rfl) w0))
      · exact aw_throw X th_eI (List.mem_of_getElem? (i := 27) rfl) hE dX6_knows_21 dX6_knows_24 (Or.inr ⟨dX6_knows_25, dX6_knows_28, dX6_knows_31⟩) (by decide) (Nat.le_of_ble_eq_true rfl) (PoX.mk (by unfold sp_knows; rw [if_pos (Or.inr ⟨c10, bI_n c18⟩)]) rfl)
