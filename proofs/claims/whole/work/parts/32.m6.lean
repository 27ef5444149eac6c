/-! THE MODEL'S CALLS, FIGURES -/
theorem ff_congr {p q : Nat → Prop} [DecidablePred p] [DecidablePred q] {n : Nat} (e : ∀ i, i < n → (p i ↔ q i)) : ∀ j k, j + k = n → ff p j k = ff q j k := by
  intro j
  induction j with
  | zero => intro k _; rfl
  | succ j ih =>
    intro k hk
    show (if p k then nI k else ff p j (k + 1)) = (if q k then nI k else ff q j (k + 1))
    rw [ih (k + 1) (by omega)]
    by_cases c : p k
    · rw [if_pos c, if_pos ((e k (by omega)).mp c)]
    · rw [if_neg c, if_neg (fun z => c ((e k (by omega)).mpr z))]
theorem IV.at {σ : NS} (hv : IV σ) {x : Int32} (h0 : 0 ≤ x) : ff (fun k => σ.F k 4 = x) σ.nf 0 = figAt σ.F σ.nf x := by
  refine (ff_congr (fun i hi => ?_) σ.nf 0 rfl).symm
  constructor
  · exact fun q => q.2
  · intro q
    refine ⟨fun z => ?_, q⟩
    have h := (hv.2.2.2.1 i hi).2.2.2
    rcases h with h | h | h
    · rw [h.2.1] at q
      rw [← q] at h0
      exact absurd h0 (by decide)
    · rw [h.1] at z; exact absurd z (by decide)
    · rcases h.1 with e | e <;> (rw [e] at z; exact absurd z (by decide))
theorem shad_at {σ : NS} (hv : IV σ) {r : Nat → Int32} {x : Int32} (h0 : 0 ≤ x) (h1 : x ≤ 15) : r 1 * σ.di / (σ.di - x) = shad r σ.di x := (if_pos (hv.gap h0 h1).1).symm

set_option maxHeartbeats 4000000 in
set_option maxRecDepth 100000 in
theorem k_X7_at_ {l : Launch} {s0 : State} {a0 : Array Value} {G : GG} (X : CX l s0 a0 G) {h : AH} {tg mo : Nat} {A : KA} {t : Int32} {sm : Int64} {σ : NS} (htg : tg ≠ 0) (w : MoW G h tg mo A t sm σ) (hv : IV σ) (x : Int32)  : Con l s0 G yX7_at_ cX7_at_ 2 (some .int) 4 0 0 tg [.ref mo, .int x] h (PoM G tg mo (sp_at σ x)) := by
  refine Con.of X (by decide +kernel) [some (.ref mo), some (.int x)] rfl (Nat.le_of_ble_eq_true rfl) (fun p e s m below meth c X hnm hret => ?_)
  have w0 := w
  obtain ⟨hmo, ⟨hlp, hls, hlf⟩, ⟨hP, hS, hF⟩, ⟨hn8, hn10, hn12⟩, hdd⟩ := id w
  refine aw_ald0 X dX7_at__0 rfl ?_
  refine aw_iconst X (0) dX7_at__1 (by decide) rfl ?_
  refine aw_put X fd_X7_35 fw_X7_0 dX7_at__2 rfl htg hmo rfl rfl (Nat.le_of_ble_eq_true rfl) ?_
  refine aw_genP (Pr := fun h3 => MoW G h3 tg mo A 0 sm σ) (w0.obj 0 sm σ.v) (fun h1 w1 => ?_)
  clear hmo hlp hls hlf hP hS hF hdd
  obtain ⟨hmo, ⟨hlp, hls, hlf⟩, ⟨hP, hS, hF⟩, -, hdd⟩ := id w1
  refine aw_ild1 X dX7_at__5 rfl ?_
  refine aw_iconst X (0) dX7_at__6 (by decide) rfl ?_
  refine aw_bipush X (9) dX7_at__7 (by decide) rfl ?_
  refine aw_callS X dX7_at__9 rfl (k_X7_is X.1 _ _ _) cmX7_is ml_X7_42 rfl rfl (Nat.le_of_ble_eq_true rfl) ⟨Nat.le_of_ble_eq_true rfl, Nat.le_of_ble_eq_true rfl⟩ (aw_rs ?_)
  refine aw_if_eq (n2 := 24) X dX7_at__12 rfl rfl (fun c12 => ?_) (fun c12 => ?_)
  · refine aw_ald0 X dX7_at__24 rfl ?_
    refine aw_iconst X (1) dX7_at__25 (by decide) rfl ?_
    refine aw_callV X dX7_at__26 rfl (k_X7_refuse X.1 htg w1 1) cmX7_refuse ml_X7_93 rfl hmo rfl rfl (Nat.le_of_ble_eq_true rfl) ⟨Nat.le_of_ble_eq_true rfl, Nat.le_of_ble_eq_true rfl⟩ (fun r h2 hq hf => ?_)
    obtain ⟨rfl, hwr⟩ := hq
    exact aw_iret X hret rfl dX7_at__29 (PoM.mk (k := 1) (σ2 := σ) (by unfold sp_at; rw [if_pos (bI_n c12)]) hwr)
  · refine aw_ald0 X dX7_at__15 rfl ?_
    refine aw_ild1 X dX7_at__16 rfl ?_
    refine aw_iconst X (-1) dX7_at__17 (by decide) rfl ?_
    refine aw_callV X dX7_at__18 rfl (k_X7_at X.1 w1 x) cmX7_at ml_X7_126 rfl hmo rfl rfl (Nat.le_of_ble_eq_true rfl) ⟨Nat.le_of_ble_eq_true rfl, Nat.le_of_ble_eq_true rfl⟩ (aw_rs ?_)
    refine aw_goto (n := 29) X dX7_at__21 rfl ?_
    exact aw_iret X hret rfl dX7_at__29 (PoM.mk (k := 0) (σ2 := σ) (by unfold sp_at; rw [if_neg (fun q => q (bI_y c12)), hv.at (bI_y c12).1]) (by exact w1))

set_option maxHeartbeats 4000000 in
set_option maxRecDepth 100000 in
theorem k_X7_plant {l : Launch} {s0 : State} {a0 : Array Value} {G : GG} (X : CX l s0 a0 G) {h : AH} {tg mo : Nat} {A : KA} {t : Int32} {sm : Int64} {σ : NS} (htg : tg ≠ 0) (w : MoW G h tg mo A t sm σ) (hv : IV σ) (x : Int32)  : Con l s0 G yX7_plant cX7_plant 3 (some .int) 4 0 0 tg [.ref mo, .int x] h (PoM G tg mo (sp_plant σ x)) := by
  refine Con.of X (by decide +kernel) [some (.ref mo), some (.int x), none] rfl (Nat.le_of_ble_eq_true rfl) (fun p e s m below meth c X hnm hret => ?_)
  have w0 := w
  obtain ⟨hmo, ⟨hlp, hls, hlf⟩, ⟨hP, hS, hF⟩, ⟨hn8, hn10, hn12⟩, hdd⟩ := id w
  refine aw_ald0 X dX7_plant_0 rfl ?_
  refine aw_iconst X (0) dX7_plant_1 (by decide) rfl ?_
  refine aw_put X fd_X7_35 fw_X7_0 dX7_plant_2 rfl htg hmo rfl rfl (Nat.le_of_ble_eq_true rfl) ?_
  refine aw_genP (Pr := fun h3 => MoW G h3 tg mo A 0 sm σ) (w0.obj 0 sm σ.v) (fun h1 w1 => ?_)
  clear hmo hlp hls hlf hP hS hF hdd
  obtain ⟨hmo, ⟨hlp, hls, hlf⟩, ⟨hP, hS, hF⟩, -, hdd⟩ := id w1
  refine aw_ald0 X dX7_plant_5 rfl ?_
  refine aw_ild1 X dX7_plant_6 rfl ?_
  refine aw_callV X dX7_plant_7 rfl (k_X7_isFigure X.1 w1 _) cmX7_isFigure ml_X7_132 rfl hmo rfl rfl (Nat.le_of_ble_eq_true rfl) ⟨Nat.le_of_ble_eq_true rfl, Nat.le_of_ble_eq_true rfl⟩ (aw_rs ?_)
  refine aw_if_ne (n2 := 19) X dX7_plant_10 rfl rfl (fun c10 => ?_) (fun c10 => ?_)
  · obtain ⟨hxk, hkf⟩ := cat_in (bI_y c10) (show σ.nf < 2 ^ 31 by omega)
    refine aw_ald0 X dX7_plant_19 rfl ?_
    refine aw_ild1 X dX7_plant_20 rfl ?_
    refine aw_callV X dX7_plant_21 rfl (k_X7_isHeld X.1 w1 hxk hkf) cmX7_isHeld ml_X7_138 rfl hmo rfl rfl (Nat.le_of_ble_eq_true rfl) ⟨Nat.le_of_ble_eq_true rfl, Nat.le_of_ble_eq_true rfl⟩ (aw_rs ?_)
    refine aw_if_ne (n2 := 33) X dX7_plant_24 rfl rfl (fun c24 => ?_) (fun c24 => ?_)
    · refine aw_ald0 X dX7_plant_33 rfl ?_
      refine aw_get X fd_X7_16 dX7_plant_34 rfl hmo rfl ?_
      refine aw_ild1 X dX7_plant_37 rfl ?_
      refine aw_callV X dX7_plant_38 rfl (k_lget X.1 hlf hxk hkf (hF _ hkf).1) cmJx4a65c_get_915e3 ml_X7_48 rfl hlf.1 rfl rfl (Nat.le_of_ble_eq_true rfl) ⟨Nat.le_of_ble_eq_true rfl, Nat.le_of_ble_eq_true rfl⟩ (aw_rs ?_)
      refine aw_castA X dX7_plant_41 rfl (kd := 0) (by decide) cc_X7_52 (hF _ hkf).2 ?_
      refine aw_ast2 X dX7_plant_44 rfl (by decide) rfl ?_
      refine aw_ald2 X dX7_plant_45 rfl ?_
      refine aw_iconst X (3) dX7_plant_46 (by decide) rfl ?_
      refine aw_iconst X (1) dX7_plant_47 (by decide) rfl ?_
      refine aw_iast X (3) dX7_plant_48 rfl htg (hF _ hkf).2 rfl (by decide) (by decide) ?_
      refine aw_ald2 X dX7_plant_49 rfl ?_
      refine aw_iconst X (5) dX7_plant_50 (by decide) rfl ?_
      refine aw_iconst X (0) dX7_plant_51 (by decide) rfl ?_
      refine aw_iast X (5) dX7_plant_52 rfl htg hu_s rfl (by decide) (by decide) ?_
      refine aw_ald2 X dX7_plant_53 rfl ?_
      refine aw_iconst X (4) dX7_plant_54 (by decide) rfl ?_
      refine aw_iald X (4) dX7_plant_55 rfl hu_s rfl (by decide) (by decide) ?_
      exact aw_iret X hret rfl dX7_plant_56 (PoM.mk (k := 0) (σ2 := σ.fig (iN x) (upd (upd (σ.Fx x) 3 1) 5 0)) (by unfold sp_plant; rw [if_neg (fun q => q (bI_y c10)), if_neg (fun q => q (show (σ.F (iN x) 3 = 2 ∨ σ.F (iN x) 3 = 3) from (hv.fig hkf).mp (bI_y c24)))]; rfl) (by rw [hu_hu]; exact w1.fig hkf (upd (upd (σ.Fx x) 3 1) 5 0)))
    · refine aw_ald0 X dX7_plant_27 rfl ?_
      refine aw_iconst X (2) dX7_plant_28 (by decide) rfl ?_
      refine aw_callV X dX7_plant_29 rfl (k_X7_refuse X.1 htg w1 2) cmX7_refuse ml_X7_93 rfl hmo rfl rfl (Nat.le_of_ble_eq_true rfl) ⟨Nat.le_of_ble_eq_true rfl, Nat.le_of_ble_eq_true rfl⟩ (fun r h2 hq hf => ?_)
      obtain ⟨rfl, hwr⟩ := hq
      exact aw_iret X hret rfl dX7_plant_32 (PoM.mk (k := 2) (σ2 := σ) (by unfold sp_plant; rw [if_neg (fun q => q (bI_y c10)), if_pos (show ¬ (σ.F (iN x) 3 = 2 ∨ σ.F (iN x) 3 = 3) from fun q => bI_n c24 ((hv.fig hkf).mpr q))]) hwr)
  · refine aw_ald0 X dX7_plant_13 rfl ?_
    refine aw_iconst X (1) dX7_plant_14 (by decide) rfl ?_
    refine aw_callV X dX7_plant_15 rfl (k_X7_refuse X.1 htg w1 1) cmX7_refuse ml_X7_93 rfl hmo rfl rfl (Nat.le_of_ble_eq_true rfl) ⟨Nat.le_of_ble_eq_true rfl, Nat.le_of_ble_eq_true rfl⟩ (fun r h2 hq hf => ?_)
    obtain ⟨rfl, hwr⟩ := hq
    exact aw_iret X hret rfl dX7_plant_18 (PoM.mk (k := 1) (σ2 := σ) (by unfold sp_plant; rw [if_pos (bI_n c10)]) hwr)

set_option maxHeartbeats 4000000 in
set_option maxRecDepth 100000 in
theorem k_X7_lift {l : Launch} {s0 : State} {a0 : Array Value} {G : GG} (X : CX l s0 a0 G) {h : AH} {tg mo : Nat} {A : KA} {t : Int32} {sm : Int64} {σ : NS} (htg : tg ≠ 0) (w : MoW G h tg mo A t sm σ) (hv : IV σ) (x : Int32) (y : Int32)  : Con l s0 G yX7_lift cX7_lift 3 (some .int) 4 0 0 tg [.ref mo, .int x, .int y] h (PoM G tg mo (sp_lift σ x y)) := by
  refine Con.of X (by decide +kernel) [some (.ref mo), some (.int x), some (.int y)] rfl (Nat.le_of_ble_eq_true rfl) (fun p e s m below meth c X hnm hret => ?_)
  have w0 := w
  obtain ⟨hmo, ⟨hlp, hls, hlf⟩, ⟨hP, hS, hF⟩, ⟨hn8, hn10, hn12⟩, hdd⟩ := id w
  refine aw_ald0 X dX7_lift_0 rfl ?_
  refine aw_iconst X (0) dX7_lift_1 (by decide) rfl ?_
  refine aw_put X fd_X7_35 fw_X7_0 dX7_lift_2 rfl htg hmo rfl rfl (Nat.le_of_ble_eq_true rfl) ?_
  refine aw_genP (Pr := fun h3 => MoW G h3 tg mo A 0 sm σ) (w0.obj 0 sm σ.v) (fun h1 w1 => ?_)
  clear hmo hlp hls hlf hP hS hF hdd
  obtain ⟨hmo, ⟨hlp, hls, hlf⟩, ⟨hP, hS, hF⟩, -, hdd⟩ := id w1
  refine aw_ald0 X dX7_lift_5 rfl ?_
  refine aw_ild1 X dX7_lift_6 rfl ?_
  refine aw_callV X dX7_lift_7 rfl (k_X7_isFigure X.1 w1 _) cmX7_isFigure ml_X7_132 rfl hmo rfl rfl (Nat.le_of_ble_eq_true rfl) ⟨Nat.le_of_ble_eq_true rfl, Nat.le_of_ble_eq_true rfl⟩ (aw_rs ?_)
  refine aw_if_ne (n2 := 19) X dX7_lift_10 rfl rfl (fun c10 => ?_) (fun c10 => ?_)
  · obtain ⟨hxk, hkf⟩ := cat_in (bI_y c10) (show σ.nf < 2 ^ 31 by omega)
    refine aw_ild2 X dX7_lift_19 rfl ?_
    refine aw_iconst X (0) dX7_lift_20 (by decide) rfl ?_
    refine aw_bipush X (15) dX7_lift_21 (by decide) rfl ?_
    refine aw_callS X dX7_lift_23 rfl (k_X7_is X.1 _ _ _) cmX7_is ml_X7_42 rfl rfl (Nat.le_of_ble_eq_true rfl) ⟨Nat.le_of_ble_eq_true rfl, Nat.le_of_ble_eq_true rfl⟩ (aw_rs ?_)
    refine aw_if_ne (n2 := 35) X dX7_lift_26 rfl rfl (fun c26 => ?_) (fun c26 => ?_)
    · refine aw_ald0 X dX7_lift_35 rfl ?_
      refine aw_ild1 X dX7_lift_36 rfl ?_
      refine aw_callV X dX7_lift_37 rfl (k_X7_isHeld X.1 w1 hxk hkf) cmX7_isHeld ml_X7_138 rfl hmo rfl rfl (Nat.le_of_ble_eq_true rfl) ⟨Nat.le_of_ble_eq_true rfl, Nat.le_of_ble_eq_true rfl⟩ (aw_rs ?_)
      refine aw_if_ne (n2 := 49) X dX7_lift_40 rfl rfl (fun c40 => ?_) (fun c40 => ?_)
      · refine aw_ald0 X dX7_lift_49 rfl ?_
        refine aw_get X fd_X7_16 dX7_lift_50 rfl hmo rfl ?_
        refine aw_ild1 X dX7_lift_53 rfl ?_
        refine aw_callV X dX7_lift_54 rfl (k_lget X.1 hlf hxk hkf (hF _ hkf).1) cmJx4a65c_get_915e3 ml_X7_48 rfl hlf.1 rfl rfl (Nat.le_of_ble_eq_true rfl) ⟨Nat.le_of_ble_eq_true rfl, Nat.le_of_ble_eq_true rfl⟩ (aw_rs ?_)
        refine aw_castA X dX7_lift_57 rfl (kd := 0) (by decide) cc_X7_52 (hF _ hkf).2 ?_
        refine aw_iconst X (5) dX7_lift_60 (by decide) rfl ?_
        refine aw_ild2 X dX7_lift_61 rfl ?_
        refine aw_iast X (5) dX7_lift_62 rfl htg (hF _ hkf).2 rfl (by decide) (by decide) ?_
        have w2 := w1.fig hkf (upd (σ.Fx x) 5 y)
        refine aw_ald0 X dX7_lift_63 rfl ?_
        refine aw_ald0 X dX7_lift_64 rfl ?_
        refine aw_get X fd_X7_16 dX7_lift_65 rfl w2.1 rfl ?_
        refine aw_ild1 X dX7_lift_68 rfl ?_
        refine aw_callV X dX7_lift_69 rfl (k_lget X.1 w2.2.1.2.2 hxk hkf (w2.2.2.1.2.2 _ hkf).1) cmJx4a65c_get_915e3 ml_X7_48 rfl w2.2.1.2.2.1 rfl rfl (Nat.le_of_ble_eq_true rfl) ⟨Nat.le_of_ble_eq_true rfl, Nat.le_of_ble_eq_true rfl⟩ (aw_rs ?_)
        refine aw_castA X dX7_lift_72 rfl (kd := 0) (by decide) cc_X7_52 hu_s ?_
        refine aw_ild2 X dX7_lift_75 rfl ?_
        refine aw_callV X dX7_lift_76 rfl (k_X7_shadow X.1 w2 hu_s y (hv.gap (bI_y c26).1 (bI_y c26).2).2) cmX7_shadow ml_X7_148 rfl w2.1 rfl rfl (Nat.le_of_ble_eq_true rfl) ⟨Nat.le_of_ble_eq_true rfl, Nat.le_of_ble_eq_true rfl⟩ (aw_rs ?_)
        exact aw_iret X hret rfl dX7_lift_79 (PoM.mk (k := 0) (σ2 := σ.fig (iN x) (upd (σ.Fx x) 5 y)) (by unfold sp_lift; rw [if_neg (fun q => q (bI_y c10)), if_neg (isY (bI_y c26)), if_neg (fun q => q (show (σ.F (iN x) 3 = 2 ∨ σ.F (iN x) 3 = 3) from (hv.fig hkf).mp (bI_y c40))), ← shad_at hv (bI_y c26).1 (bI_y c26).2]; rfl) (by exact w2))
      · refine aw_ald0 X dX7_lift_43 rfl ?_
        refine aw_iconst X (3) dX7_lift_44 (by decide) rfl ?_
        refine aw_callV X dX7_lift_45 rfl (k_X7_refuse X.1 htg w1 3) cmX7_refuse ml_X7_93 rfl hmo rfl rfl (Nat.le_of_ble_eq_true rfl) ⟨Nat.le_of_ble_eq_true rfl, Nat.le_of_ble_eq_true rfl⟩ (fun r h2 hq hf => ?_)
        obtain ⟨rfl, hwr⟩ := hq
        exact aw_iret X hret rfl dX7_lift_48 (PoM.mk (k := 3) (σ2 := σ) (by unfold sp_lift; rw [if_neg (fun q => q (bI_y c10)), if_neg (isY (bI_y c26)), if_pos (show ¬ (σ.F (iN x) 3 = 2 ∨ σ.F (iN x) 3 = 3) from fun q => bI_n c40 ((hv.fig hkf).mpr q))]) hwr)
    · refine aw_ald0 X dX7_lift_29 rfl ?_
      refine aw_iconst X (2) dX7_lift_30 (by decide) rfl ?_
      refine aw_callV X dX7_lift_31 rfl (k_X7_refuse X.1 htg w1 2) cmX7_refuse ml_X7_93 rfl hmo rfl rfl (Nat.le_of_ble_eq_true rfl) ⟨Nat.le_of_ble_eq_true rfl, Nat.le_of_ble_eq_true rfl⟩ (fun r h2 hq hf => ?_)
      obtain ⟨rfl, hwr⟩ := hq
      exact aw_iret X hret rfl dX7_lift_34 (PoM.mk (k := 2) (σ2 := σ) (by unfold sp_lift; rw [if_neg (fun q => q (bI_y c10)), if_pos (isN (bI_n c26))]) hwr)
  · refine aw_ald0 X dX7_lift_13 rfl ?_
    refine aw_iconst X (1) dX7_lift_14 (by decide) rfl ?_
    refine aw_callV X dX7_lift_15 rfl (k_X7_refuse X.1 htg w1 1) cmX7_refuse ml_X7_93 rfl hmo rfl rfl (Nat.le_of_ble_eq_true rfl) ⟨Nat.le_of_ble_eq_true rfl, Nat.le_of_ble_eq_true rfl⟩ (fun r h2 hq hf => ?_)
    obtain ⟨rfl, hwr⟩ := hq
    exact aw_iret X hret rfl dX7_lift_18 (PoM.mk (k := 1) (σ2 := σ) (by unfold sp_lift; rw [if_pos (bI_n c10)]) hwr)
