/-! THE MODEL'S CALLS: move, hand, away, liftFor -/
theorem side9 {s : Int32} (h : s = 0 ∨ s = 1) : 9 * s = if s = 0 then 0 else 9 := by
  rcases h with h | h <;> rw [h] <;> decide
theorem reach_iff {hd pl : Int32} (h : 0 ≤ pl ∧ pl ≤ 9) : reachM hd pl ↔ reachP hd pl := by
  by_cases c : hd = 2
  · rw [show reachM hd pl = (0 ≤ pl ∧ pl ≤ 5) from if_pos c, show reachP hd pl = (pl ≤ 5) from if_pos c]
    exact ⟨fun q => q.2, fun q => ⟨h.1, q⟩⟩
  · rw [show reachM hd pl = (4 ≤ pl ∧ pl ≤ 9) from if_neg c, show reachP hd pl = (4 ≤ pl) from if_neg c]
    exact ⟨fun q => q.1, fun q => ⟨q, h.2⟩⟩
theorem IV.held {σ : NS} (hv : IV σ) {k : Nat} (hk : k < σ.nf) (h : σ.F k 3 = 2 ∨ σ.F k 3 = 3) : 0 ≤ σ.F k 4 ∧ σ.F k 4 ≤ 9 := by
  have h9 := (hv.2.2.2.1 k hk).2.2.2
  rcases h9 with h9 | h9 | h9
  · rw [h9.1] at h; exact absurd h (by decide)
  · exact h9.2.1
  · exact h9.2.1

set_option maxHeartbeats 4000000 in
set_option maxRecDepth 100000 in
theorem k_X7_move {l : Launch} {s0 : State} {a0 : Array Value} {G : GG} (X : CX l s0 a0 G) {h : AH} {tg mo : Nat} {A : KA} {t : Int32} {sm : Int64} {σ : NS} (htg : tg ≠ 0) (w : MoW G h tg mo A t sm σ) (hv : IV σ) (x : Int32) (y : Int32)  : Con l s0 G yX7_move cX7_move 4 (some .int) 5 0 0 tg [.ref mo, .int x, .int y] h (PoM G tg mo (sp_move σ x y)) := by
  refine Con.of X (by decide +kernel) [some (.ref mo), some (.int x), some (.int y), none] rfl (Nat.le_of_ble_eq_true rfl) (fun p e s m below meth c X hnm hret => ?_)
  have w0 := w
  obtain ⟨hmo, ⟨hlp, hls, hlf⟩, ⟨hP, hS, hF⟩, ⟨hn8, hn10, hn12⟩, hdd⟩ := id w
  refine aw_ald0 X dX7_move_0 rfl ?_
  refine aw_iconst X (0) dX7_move_1 (by decide) rfl ?_
  refine aw_put X fd_X7_35 fw_X7_0 dX7_move_2 rfl htg hmo rfl rfl (Nat.le_of_ble_eq_true rfl) ?_
  refine aw_genP (Pr := fun h3 => MoW G h3 tg mo A 0 sm σ) (w0.obj 0 sm σ.v) (fun h1 w1 => ?_)
  clear hmo hlp hls hlf hP hS hF hdd
  obtain ⟨hmo, ⟨hlp, hls, hlf⟩, ⟨hP, hS, hF⟩, -, hdd⟩ := id w1
  refine aw_ald0 X dX7_move_5 rfl ?_
  refine aw_ild1 X dX7_move_6 rfl ?_
  refine aw_callV X dX7_move_7 rfl (k_X7_isFigure X.1 w1 _) cmX7_isFigure ml_X7_132 rfl hmo rfl rfl (Nat.le_of_ble_eq_true rfl) ⟨Nat.le_of_ble_eq_true rfl, Nat.le_of_ble_eq_true rfl⟩ (aw_rs ?_)
  refine aw_if_ne (n2 := 19) X dX7_move_10 rfl rfl (fun c10 => ?_) (fun c10 => ?_)
  · obtain ⟨hxk, hkf⟩ := cat_in (bI_y c10) (show σ.nf < 2 ^ 31 by omega)
    refine aw_ild2 X dX7_move_19 rfl ?_
    refine aw_iconst X (0) dX7_move_20 (by decide) rfl ?_
    refine aw_bipush X (9) dX7_move_21 (by decide) rfl ?_
    refine aw_callS X dX7_move_23 rfl (k_X7_is X.1 _ _ _) cmX7_is ml_X7_42 rfl rfl (Nat.le_of_ble_eq_true rfl) ⟨Nat.le_of_ble_eq_true rfl, Nat.le_of_ble_eq_true rfl⟩ (aw_rs ?_)
    refine aw_if_ne (n2 := 35) X dX7_move_26 rfl rfl (fun c26 => ?_) (fun c26 => ?_)
    · refine aw_ald0 X dX7_move_35 rfl ?_
      refine aw_get X fd_X7_16 dX7_move_36 rfl hmo rfl ?_
      refine aw_ild1 X dX7_move_39 rfl ?_
      refine aw_callV X dX7_move_40 rfl (k_lget X.1 hlf hxk hkf (hF _ hkf).1) cmJx4a65c_get_915e3 ml_X7_48 rfl hlf.1 rfl rfl (Nat.le_of_ble_eq_true rfl) ⟨Nat.le_of_ble_eq_true rfl, Nat.le_of_ble_eq_true rfl⟩ (aw_rs ?_)
      refine aw_castA X dX7_move_43 rfl (kd := 0) (by decide) cc_X7_52 (hF _ hkf).2 ?_
      refine aw_ast3 X dX7_move_46 rfl (by decide) rfl ?_
      refine aw_ald0 X dX7_move_47 rfl ?_
      refine aw_ild1 X dX7_move_48 rfl ?_
      refine aw_callV X dX7_move_49 rfl (k_X7_isHeld X.1 w1 hxk hkf) cmX7_isHeld ml_X7_138 rfl hmo rfl rfl (Nat.le_of_ble_eq_true rfl) ⟨Nat.le_of_ble_eq_true rfl, Nat.le_of_ble_eq_true rfl⟩ (aw_rs ?_)
      refine aw_if_eq (n2 := 75) X dX7_move_52 rfl rfl (fun c52 => ?_) (fun c52 => ?_)
      · refine aw_ald0 X dX7_move_75 rfl ?_
        refine aw_iconst X (3) dX7_move_76 (by decide) rfl ?_
        refine aw_callV X dX7_move_77 rfl (k_X7_refuse X.1 htg w1 3) cmX7_refuse ml_X7_93 rfl hmo rfl rfl (Nat.le_of_ble_eq_true rfl) ⟨Nat.le_of_ble_eq_true rfl, Nat.le_of_ble_eq_true rfl⟩ (fun r h2 hq hf => ?_)
        obtain ⟨rfl, hwr⟩ := hq
        exact aw_iret X hret rfl dX7_move_80 (PoM.mk (k := 3) (σ2 := σ) (by unfold sp_move; rw [if_neg (fun q => q (bI_y c10)), if_neg (fun q => q (bI_y c26)), if_pos (Or.inl (show ¬ (σ.F (iN x) 3 = 2 ∨ σ.F (iN x) 3 = 3) from fun q => bI_n c52 ((hv.fig hkf).mpr q)))]) hwr)
      · refine aw_ald0 X dX7_move_55 rfl ?_
        refine aw_ild2 X dX7_move_56 rfl ?_
        refine aw_iconst X (-1) dX7_move_57 (by decide) rfl ?_
        refine aw_callV X dX7_move_58 rfl (k_X7_at X.1 w1 y) cmX7_at ml_X7_126 rfl hmo rfl rfl (Nat.le_of_ble_eq_true rfl) ⟨Nat.le_of_ble_eq_true rfl, Nat.le_of_ble_eq_true rfl⟩ (aw_rs ?_)
        refine aw_iconst X (-1) dX7_move_61 (by decide) rfl ?_
        refine aw_icmp_ne (n2 := 75) X dX7_move_62 rfl rfl (fun c62 => ?_) (fun c62 => ?_)
        · refine aw_ald0 X dX7_move_75 rfl ?_
          refine aw_iconst X (3) dX7_move_76 (by decide) rfl ?_
          refine aw_callV X dX7_move_77 rfl (k_X7_refuse X.1 htg w1 3) cmX7_refuse ml_X7_93 rfl hmo rfl rfl (Nat.le_of_ble_eq_true rfl) ⟨Nat.le_of_ble_eq_true rfl, Nat.le_of_ble_eq_true rfl⟩ (fun r h2 hq hf => ?_)
          obtain ⟨rfl, hwr⟩ := hq
          exact aw_iret X hret rfl dX7_move_80 (PoM.mk (k := 3) (σ2 := σ) (by unfold sp_move; rw [if_neg (fun q => q (bI_y c10)), if_neg (fun q => q (bI_y c26)), if_pos (Or.inr (Or.inr (fun q => c62 ((hv.at (bI_y c26).1).trans q))))]) hwr)
        · refine aw_ald3 X dX7_move_65 rfl ?_
          refine aw_iconst X (3) dX7_move_66 (by decide) rfl ?_
          refine aw_iald X (3) dX7_move_67 rfl (hF _ hkf).2 rfl (by decide) (by decide) ?_
          refine aw_ild2 X dX7_move_68 rfl ?_
          refine aw_callS X dX7_move_69 rfl (k_X7_reaches X.1 _ _) cmX7_reaches ml_X7_129 rfl rfl (Nat.le_of_ble_eq_true rfl) ⟨Nat.le_of_ble_eq_true rfl, Nat.le_of_ble_eq_true rfl⟩ (aw_rs ?_)
          refine aw_if_ne (n2 := 81) X dX7_move_72 rfl rfl (fun c72 => ?_) (fun c72 => ?_)
          · refine aw_ald3 X dX7_move_81 rfl ?_
            refine aw_ild2 X dX7_move_82 rfl ?_
            refine aw_ald3 X dX7_move_83 rfl ?_
            refine aw_iconst X (4) dX7_move_84 (by decide) rfl ?_
            refine aw_iald X (4) dX7_move_85 rfl (hF _ hkf).2 rfl (by decide) (by decide) ?_
            refine aw_isub X dX7_move_86 rfl ?_
            refine aw_mabs X dX7_move_87 rfl ⟨ml_X7_141, mm_abs⟩ (Nat.le_of_ble_eq_true rfl) (Nat.le_of_ble_eq_true rfl) ?_
            refine aw_callS X dX7_move_90 rfl (k_X7_wear X.1 htg (hF _ hkf).2 (absI (y - σ.Fx x 4))) cmX7_wear ml_X7_144 rfl rfl (Nat.le_of_ble_eq_true rfl) ⟨Nat.le_of_ble_eq_true rfl, Nat.le_of_ble_eq_true rfl⟩ (aw_rv ?_)
            refine aw_ald3 X dX7_move_93 rfl ?_
            refine aw_iconst X (4) dX7_move_94 (by decide) rfl ?_
            refine aw_ild2 X dX7_move_95 rfl ?_
            refine aw_iast X (4) dX7_move_96 rfl htg hu_s rfl (by decide) (by decide) ?_
            refine aw_ald3 X dX7_move_97 rfl ?_
            refine aw_iconst X (2) dX7_move_98 (by decide) rfl ?_
            refine aw_iald X (2) dX7_move_99 rfl hu_s rfl (by decide) (by decide) ?_
            exact aw_iret X hret rfl dX7_move_100 (PoM.mk (k := 0) (σ2 := σ.fig (iN x) (upd (wearR (σ.Fx x) (absI (y - σ.Fx x 4))) 4 y)) (by unfold sp_move; rw [if_neg (fun q => q (bI_y c10)), if_neg (fun q => q (bI_y c26)), if_neg (fun q => q.elim (fun z => z (show (σ.F (iN x) 3 = 2 ∨ σ.F (iN x) 3 = 3) from (hv.fig hkf).mp (bI_y c52))) (fun z => z.elim (fun z => z ((reach_iff (bI_y c26)).mp (bI_y c72))) (fun z => z (show figAt σ.F σ.nf y = -1 from (hv.at (bI_y c26).1).symm.trans c62))))]; rfl) (by rw [hu_hu]; exact w1.fig hkf (upd (wearR (σ.Fx x) (absI (y - σ.Fx x 4))) 4 y)))
          · refine aw_ald0 X dX7_move_75 rfl ?_
            refine aw_iconst X (3) dX7_move_76 (by decide) rfl ?_
            refine aw_callV X dX7_move_77 rfl (k_X7_refuse X.1 htg w1 3) cmX7_refuse ml_X7_93 rfl hmo rfl rfl (Nat.le_of_ble_eq_true rfl) ⟨Nat.le_of_ble_eq_true rfl, Nat.le_of_ble_eq_true rfl⟩ (fun r h2 hq hf => ?_)
            obtain ⟨rfl, hwr⟩ := hq
            exact aw_iret X hret rfl dX7_move_80 (PoM.mk (k := 3) (σ2 := σ) (by unfold sp_move; rw [if_neg (fun q => q (bI_y c10)), if_neg (fun q => q (bI_y c26)), if_pos (Or.inr (Or.inl (fun q => bI_n c72 ((reach_iff (bI_y c26)).mpr q))))]) hwr)
    · refine aw_ald0 X dX7_move_29 rfl ?_
      refine aw_iconst X (2) dX7_move_30 (by decide) rfl ?_
      refine aw_callV X dX7_move_31 rfl (k_X7_refuse X.1 htg w1 2) cmX7_refuse ml_X7_93 rfl hmo rfl rfl (Nat.le_of_ble_eq_true rfl) ⟨Nat.le_of_ble_eq_true rfl, Nat.le_of_ble_eq_true rfl⟩ (fun r h2 hq hf => ?_)
      obtain ⟨rfl, hwr⟩ := hq
      exact aw_iret X hret rfl dX7_move_34 (PoM.mk (k := 2) (σ2 := σ) (by unfold sp_move; rw [if_neg (fun q => q (bI_y c10)), if_pos (bI_n c26)]) hwr)
  · refine aw_ald0 X dX7_move_13 rfl ?_
    refine aw_iconst X (1) dX7_move_14 (by decide) rfl ?_
    refine aw_callV X dX7_move_15 rfl (k_X7_refuse X.1 htg w1 1) cmX7_refuse ml_X7_93 rfl hmo rfl rfl (Nat.le_of_ble_eq_true rfl) ⟨Nat.le_of_ble_eq_true rfl, Nat.le_of_ble_eq_true rfl⟩ (fun r h2 hq hf => ?_)
    obtain ⟨rfl, hwr⟩ := hq
    exact aw_iret X hret rfl dX7_move_18 (PoM.mk (k := 1) (σ2 := σ) (by unfold sp_move; rw [if_pos (bI_n c10)]) hwr)

set_option maxHeartbeats 4000000 in
set_option maxRecDepth 100000 in
theorem k_X7_away {l : Launch} {s0 : State} {a0 : Array Value} {G : GG} (X : CX l s0 a0 G) {h : AH} {tg mo : Nat} {A : KA} {t : Int32} {sm : Int64} {σ : NS} (htg : tg ≠ 0) (w : MoW G h tg mo A t sm σ) (hv : IV σ) (x : Int32)  : Con l s0 G yX7_away cX7_away 3 (some .int) 4 1 4 tg [.ref mo, .int x] h (PoM G tg mo (sp_away σ x)) := by
  refine Con.of X (by decide +kernel) [some (.ref mo), some (.int x), none] rfl (Nat.le_of_ble_eq_true rfl) (fun p e s m below meth c X hnm hret => ?_)
  have w0 := w
  obtain ⟨hmo, ⟨hlp, hls, hlf⟩, ⟨hP, hS, hF⟩, ⟨hn8, hn10, hn12⟩, hdd⟩ := id w
  refine aw_ald0 X dX7_away_0 rfl ?_
  refine aw_iconst X (0) dX7_away_1 (by decide) rfl ?_
  refine aw_put X fd_X7_35 fw_X7_0 dX7_away_2 rfl htg hmo rfl rfl (Nat.le_of_ble_eq_true rfl) ?_
  refine aw_genP (Pr := fun h3 => MoW G h3 tg mo A 0 sm σ) (w0.obj 0 sm σ.v) (fun h1 w1 => ?_)
  clear hmo hlp hls hlf hP hS hF hdd
  obtain ⟨hmo, ⟨hlp, hls, hlf⟩, ⟨hP, hS, hF⟩, -, hdd⟩ := id w1
  refine aw_ald0 X dX7_away_5 rfl ?_
  refine aw_ild1 X dX7_away_6 rfl ?_
  refine aw_callV X dX7_away_7 rfl (k_X7_isFigure X.1 w1 _) cmX7_isFigure ml_X7_132 rfl hmo rfl rfl (Nat.le_of_ble_eq_true rfl) ⟨Nat.le_of_ble_eq_true rfl, Nat.le_of_ble_eq_true rfl⟩ (aw_rs ?_)
  refine aw_if_ne (n2 := 19) X dX7_away_10 rfl rfl (fun c10 => ?_) (fun c10 => ?_)
  · obtain ⟨hxk, hkf⟩ := cat_in (bI_y c10) (show σ.nf < 2 ^ 31 by omega)
    have ho := (hv.2.2.2.1 _ hkf).1
    obtain ⟨hok, hol⟩ := nI_iN ho.1 ho.2 (by omega)
    have h9s := side9 (hv.2.1 _ hol).1
    refine aw_ald0 X dX7_away_19 rfl ?_
    refine aw_get X fd_X7_16 dX7_away_20 rfl hmo rfl ?_
    refine aw_ild1 X dX7_away_23 rfl ?_
    refine aw_callV X dX7_away_24 rfl (k_lget X.1 hlf hxk hkf (hF _ hkf).1) cmJx4a65c_get_915e3 ml_X7_48 rfl hlf.1 rfl rfl (Nat.le_of_ble_eq_true rfl) ⟨Nat.le_of_ble_eq_true rfl, Nat.le_of_ble_eq_true rfl⟩ (aw_rs ?_)
    refine aw_castA X dX7_away_27 rfl (kd := 0) (by decide) cc_X7_52 (hF _ hkf).2 ?_
    refine aw_ast2 X dX7_away_30 rfl (by decide) rfl ?_
    refine aw_ald0 X dX7_away_31 rfl ?_
    refine aw_ild1 X dX7_away_32 rfl ?_
    refine aw_callV X dX7_away_33 rfl (k_X7_isHeld X.1 w1 hxk hkf) cmX7_isHeld ml_X7_138 rfl hmo rfl rfl (Nat.le_of_ble_eq_true rfl) ⟨Nat.le_of_ble_eq_true rfl, Nat.le_of_ble_eq_true rfl⟩ (aw_rs ?_)
    refine aw_if_eq (n2 := 63) X dX7_away_36 rfl rfl (fun c36 => ?_) (fun c36 => ?_)
    · refine aw_ald0 X dX7_away_63 rfl ?_
      refine aw_iconst X (2) dX7_away_64 (by decide) rfl ?_
      refine aw_callV X dX7_away_65 rfl (k_X7_refuse X.1 htg w1 2) cmX7_refuse ml_X7_93 rfl hmo rfl rfl (Nat.le_of_ble_eq_true rfl) ⟨Nat.le_of_ble_eq_true rfl, Nat.le_of_ble_eq_true rfl⟩ (fun r h2 hq hf => ?_)
      obtain ⟨rfl, hwr⟩ := hq
      exact aw_iret X hret rfl dX7_away_68 (PoM.mk (k := 2) (σ2 := σ) (by unfold sp_away; rw [if_neg (fun q => q (bI_y c10)), if_pos (Or.inl (show ¬ (σ.F (iN x) 3 = 2 ∨ σ.F (iN x) 3 = 3) from fun q => bI_n c36 ((hv.fig hkf).mpr q)))]) hwr)
    · refine aw_ald2 X dX7_away_39 rfl ?_
      refine aw_iconst X (4) dX7_away_40 (by decide) rfl ?_
      refine aw_iald X (4) dX7_away_41 rfl (hF _ hkf).2 rfl (by decide) (by decide) ?_
      refine aw_bipush X (9) dX7_away_42 (by decide) rfl ?_
      refine aw_ald0 X dX7_away_44 rfl ?_
      refine aw_get X fd_X7_10 dX7_away_45 rfl hmo rfl ?_
      refine aw_ald2 X dX7_away_48 rfl ?_
      refine aw_iconst X (0) dX7_away_49 (by decide) rfl ?_
      refine aw_iald X (0) dX7_away_50 rfl (hF _ hkf).2 rfl (by decide) (by decide) ?_
      refine aw_callV X dX7_away_51 rfl (k_lget X.1 hlp hok hol (hP _ hol).1) cmJx4a65c_get_915e3 ml_X7_48 rfl hlp.1 rfl rfl (Nat.le_of_ble_eq_true rfl) ⟨Nat.le_of_ble_eq_true rfl, Nat.le_of_ble_eq_true rfl⟩ (aw_rs ?_)
      refine aw_castA X dX7_away_54 rfl (kd := 0) (by decide) cc_X7_52 (hP _ hol).2 ?_
      refine aw_iconst X (0) dX7_away_57 (by decide) rfl ?_
      refine aw_iald X (0) dX7_away_58 rfl (hP _ hol).2 rfl (by decide) (by decide) ?_
      refine aw_imul X dX7_away_59 rfl ?_
      refine aw_icmp_eq (n2 := 69) X dX7_away_60 rfl rfl (fun c60 => ?_) (fun c60 => ?_)
      · refine aw_ald2 X dX7_away_69 rfl ?_
        refine aw_iconst X (3) dX7_away_70 (by decide) rfl ?_
        refine aw_iconst X (0) dX7_away_71 (by decide) rfl ?_
        refine aw_iast X (3) dX7_away_72 rfl htg (hF _ hkf).2 rfl (by decide) (by decide) ?_
        refine aw_ald2 X dX7_away_73 rfl ?_
        refine aw_iconst X (4) dX7_away_74 (by decide) rfl ?_
        refine aw_iconst X (-1) dX7_away_75 (by decide) rfl ?_
        refine aw_iast X (4) dX7_away_76 rfl htg hu_s rfl (by decide) (by decide) ?_
        refine aw_ald2 X dX7_away_77 rfl ?_
        refine aw_iconst X (5) dX7_away_78 (by decide) rfl ?_
        refine aw_iconst X (0) dX7_away_79 (by decide) rfl ?_
        refine aw_iast X (5) dX7_away_80 rfl htg hu_s rfl (by decide) (by decide) ?_
        rw [hu_hu, hu_hu]
        have w2 := w1.fig hkf (awayR (σ.Fx x))
        refine aw_ald0 X dX7_away_81 rfl ?_
        refine aw_callV X dX7_away_82 rfl (k_X7_onScreen X.1 htg w2) cmX7_onScreen ml_X7_152 rfl w2.1 rfl rfl (Nat.le_of_ble_eq_true rfl) ⟨Nat.le_of_ble_eq_true rfl, Nat.le_of_ble_eq_true rfl⟩ (fun r h2 hq hf => ?_)
        obtain ⟨rfl, hx2⟩ := hq
        exact aw_iret X hret rfl dX7_away_85 (PoM.mk (k := 0) (σ2 := σ.fig (iN x) (awayR (σ.Fx x))) (by unfold sp_away; rw [if_neg (fun q => q (bI_y c10)), if_neg (fun q => q.elim (fun z => z (show (σ.F (iN x) 3 = 2 ∨ σ.F (iN x) 3 = 3) from (hv.fig hkf).mp (bI_y c36))) (fun z => z (c60.trans h9s)))]; rfl) (by exact w2.ext hx2))
      · refine aw_ald0 X dX7_away_63 rfl ?_
        refine aw_iconst X (2) dX7_away_64 (by decide) rfl ?_
        refine aw_callV X dX7_away_65 rfl (k_X7_refuse X.1 htg w1 2) cmX7_refuse ml_X7_93 rfl hmo rfl rfl (Nat.le_of_ble_eq_true rfl) ⟨Nat.le_of_ble_eq_true rfl, Nat.le_of_ble_eq_true rfl⟩ (fun r h2 hq hf => ?_)
        obtain ⟨rfl, hwr⟩ := hq
        exact aw_iret X hret rfl dX7_away_68 (PoM.mk (k := 2) (σ2 := σ) (by unfold sp_away; rw [if_neg (fun q => q (bI_y c10)), if_pos (Or.inr (fun q => c60 (q.trans h9s.symm)))]) hwr)
  · refine aw_ald0 X dX7_away_13 rfl ?_
    refine aw_iconst X (1) dX7_away_14 (by decide) rfl ?_
    refine aw_callV X dX7_away_15 rfl (k_X7_refuse X.1 htg w1 1) cmX7_refuse ml_X7_93 rfl hmo rfl rfl (Nat.le_of_ble_eq_true rfl) ⟨Nat.le_of_ble_eq_true rfl, Nat.le_of_ble_eq_true rfl⟩ (fun r h2 hq hf => ?_)
    obtain ⟨rfl, hwr⟩ := hq
    exact aw_iret X hret rfl dX7_away_18 (PoM.mk (k := 1) (σ2 := σ) (by unfold sp_away; rw [if_pos (bI_n c10)]) hwr)

set_option maxHeartbeats 4000000 in
set_option maxRecDepth 100000 in
theorem k_X7_hand {l : Launch} {s0 : State} {a0 : Array Value} {G : GG} (X : CX l s0 a0 G) {h : AH} {tg mo : Nat} {A : KA} {t : Int32} {sm : Int64} {σ : NS} (htg : tg ≠ 0) (w : MoW G h tg mo A t sm σ) (hv : IV σ) (x : Int32)  : Con l s0 G yX7_hand cX7_hand 4 (some .int) 4 1 4 tg [.ref mo, .int x] h (PoM G tg mo (sp_hand σ x)) := by
  refine Con.of X (by decide +kernel) [some (.ref mo), some (.int x), none, none] rfl (Nat.le_of_ble_eq_true rfl) (fun p e s m below meth c X hnm hret => ?_)
  have w0 := w
  obtain ⟨hmo, ⟨hlp, hls, hlf⟩, ⟨hP, hS, hF⟩, ⟨hn8, hn10, hn12⟩, hdd⟩ := id w
  refine aw_ald0 X dX7_hand_0 rfl ?_
  refine aw_iconst X (0) dX7_hand_1 (by decide) rfl ?_
  refine aw_put X fd_X7_35 fw_X7_0 dX7_hand_2 rfl htg hmo rfl rfl (Nat.le_of_ble_eq_true rfl) ?_
  refine aw_genP (Pr := fun h3 => MoW G h3 tg mo A 0 sm σ) (w0.obj 0 sm σ.v) (fun h1 w1 => ?_)
  clear hmo hlp hls hlf hP hS hF hdd
  obtain ⟨hmo, ⟨hlp, hls, hlf⟩, ⟨hP, hS, hF⟩, -, hdd⟩ := id w1
  refine aw_ald0 X dX7_hand_5 rfl ?_
  refine aw_ild1 X dX7_hand_6 rfl ?_
  refine aw_callV X dX7_hand_7 rfl (k_X7_isFigure X.1 w1 _) cmX7_isFigure ml_X7_132 rfl hmo rfl rfl (Nat.le_of_ble_eq_true rfl) ⟨Nat.le_of_ble_eq_true rfl, Nat.le_of_ble_eq_true rfl⟩ (aw_rs ?_)
  refine aw_if_ne (n2 := 19) X dX7_hand_10 rfl rfl (fun c10 => ?_) (fun c10 => ?_)
  · obtain ⟨hxk, hkf⟩ := cat_in (bI_y c10) (show σ.nf < 2 ^ 31 by omega)
    refine aw_ald0 X dX7_hand_19 rfl ?_
    refine aw_get X fd_X7_16 dX7_hand_20 rfl hmo rfl ?_
    refine aw_ild1 X dX7_hand_23 rfl ?_
    refine aw_callV X dX7_hand_24 rfl (k_lget X.1 hlf hxk hkf (hF _ hkf).1) cmJx4a65c_get_915e3 ml_X7_48 rfl hlf.1 rfl rfl (Nat.le_of_ble_eq_true rfl) ⟨Nat.le_of_ble_eq_true rfl, Nat.le_of_ble_eq_true rfl⟩ (aw_rs ?_)
    refine aw_castA X dX7_hand_27 rfl (kd := 0) (by decide) cc_X7_52 (hF _ hkf).2 ?_
    refine aw_ast2 X dX7_hand_30 rfl (by decide) rfl ?_
    refine aw_iconst X (5) dX7_hand_31 (by decide) rfl ?_
    refine aw_ald2 X dX7_hand_32 rfl ?_
    refine aw_iconst X (3) dX7_hand_33 (by decide) rfl ?_
    refine aw_iald X (3) dX7_hand_34 rfl (hF _ hkf).2 rfl (by decide) (by decide) ?_
    refine aw_isub X dX7_hand_35 rfl ?_
    refine aw_ist3 X dX7_hand_36 rfl (by decide) rfl ?_
    refine aw_ald0 X dX7_hand_37 rfl ?_
    refine aw_ild1 X dX7_hand_38 rfl ?_
    refine aw_callV X dX7_hand_39 rfl (k_X7_isHeld X.1 w1 hxk hkf) cmX7_isHeld ml_X7_138 rfl hmo rfl rfl (Nat.le_of_ble_eq_true rfl) ⟨Nat.le_of_ble_eq_true rfl, Nat.le_of_ble_eq_true rfl⟩ (aw_rs ?_)
    refine aw_if_eq (n2 := 63) X dX7_hand_42 rfl rfl (fun c42 => ?_) (fun c42 => ?_)
    · refine aw_ald0 X dX7_hand_63 rfl ?_
      refine aw_iconst X (2) dX7_hand_64 (by decide) rfl ?_
      refine aw_callV X dX7_hand_65 rfl (k_X7_refuse X.1 htg w1 2) cmX7_refuse ml_X7_93 rfl hmo rfl rfl (Nat.le_of_ble_eq_true rfl) ⟨Nat.le_of_ble_eq_true rfl, Nat.le_of_ble_eq_true rfl⟩ (fun r h2 hq hf => ?_)
      obtain ⟨rfl, hwr⟩ := hq
      exact aw_iret X hret rfl dX7_hand_68 (PoM.mk (k := 2) (σ2 := σ) (by unfold sp_hand; rw [if_neg (fun q => q (bI_y c10)), if_pos (Or.inl (show ¬ (σ.F (iN x) 3 = 2 ∨ σ.F (iN x) 3 = 3) from fun q => bI_n c42 ((hv.fig hkf).mpr q)))]) hwr)
    · have hH : σ.F (iN x) 3 = 2 ∨ σ.F (iN x) 3 = 3 := (hv.fig hkf).mp (bI_y c42)
      have hO : 5 - σ.F (iN x) 3 = othH σ x := by
        unfold othH
        rcases hH with e | e <;> (show 5 - σ.F (iN x) 3 = if σ.F (iN x) 3 = 2 then 3 else 2) <;> rw [e] <;> decide
      rw [hO]
      refine aw_ald0 X dX7_hand_45 rfl ?_
      refine aw_ild3 X dX7_hand_46 rfl ?_
      refine aw_callV X dX7_hand_47 rfl (k_X7_isFree X.1 htg w1 (othH σ x)) cmX7_isFree ml_X7_123 rfl hmo rfl rfl (Nat.le_of_ble_eq_true rfl) ⟨Nat.le_of_ble_eq_true rfl, Nat.le_of_ble_eq_true rfl⟩ (fun r h2 hq hf => ?_)
      obtain ⟨rfl, hxA⟩ := hq
      have w2 := w1.ext hxA
      refine aw_if_eq (n2 := 63) X dX7_hand_50 rfl rfl (fun c50 => ?_) (fun c50 => ?_)
      · refine aw_ald0 X dX7_hand_63 rfl ?_
        refine aw_iconst X (2) dX7_hand_64 (by decide) rfl ?_
        refine aw_callV X dX7_hand_65 rfl (k_X7_refuse X.1 htg w2 2) cmX7_refuse ml_X7_93 rfl w2.1 rfl rfl (Nat.le_of_ble_eq_true rfl) ⟨Nat.le_of_ble_eq_true rfl, Nat.le_of_ble_eq_true rfl⟩ (fun r h2 hq hf => ?_)
        obtain ⟨rfl, hwr⟩ := hq
        exact aw_iret X hret rfl dX7_hand_68 (PoM.mk (k := 2) (σ2 := σ) (by unfold sp_hand; rw [if_neg (fun q => q (bI_y c10)), if_pos (Or.inr (fun q => bI_n c50 q.2))]) hwr)
      · refine aw_ild3 X dX7_hand_53 rfl ?_
        refine aw_ald2 X dX7_hand_54 rfl ?_
        refine aw_iconst X (4) dX7_hand_55 (by decide) rfl ?_
        refine aw_iald X (4) dX7_hand_56 rfl (w2.2.2.1.2.2 _ hkf).2 rfl (by decide) (by decide) ?_
        refine aw_callS X dX7_hand_57 rfl (k_X7_reaches X.1 _ _) cmX7_reaches ml_X7_129 rfl rfl (Nat.le_of_ble_eq_true rfl) ⟨Nat.le_of_ble_eq_true rfl, Nat.le_of_ble_eq_true rfl⟩ (aw_rs ?_)
        refine aw_if_ne (n2 := 69) X dX7_hand_60 rfl rfl (fun c60 => ?_) (fun c60 => ?_)
        · refine aw_ald2 X dX7_hand_69 rfl ?_
          refine aw_iconst X (3) dX7_hand_70 (by decide) rfl ?_
          refine aw_ild3 X dX7_hand_71 rfl ?_
          refine aw_iast X (3) dX7_hand_72 rfl htg (w2.2.2.1.2.2 _ hkf).2 rfl (by decide) (by decide) ?_
          refine aw_ild3 X dX7_hand_73 rfl ?_
          exact aw_iret X hret rfl dX7_hand_74 (PoM.mk (k := 0) (σ2 := σ.fig (iN x) (upd (σ.Fx x) 3 (othH σ x))) (by unfold sp_hand; rw [if_neg (fun q => q (bI_y c10)), if_neg (fun q => q.elim (fun z => z hH) (fun z => z ⟨(reach_iff (hv.held hkf hH)).mp (bI_y c60), bI_y c50⟩))]) (by exact w2.fig hkf (upd (σ.Fx x) 3 (othH σ x))))
        · refine aw_ald0 X dX7_hand_63 rfl ?_
          refine aw_iconst X (2) dX7_hand_64 (by decide) rfl ?_
          refine aw_callV X dX7_hand_65 rfl (k_X7_refuse X.1 htg w2 2) cmX7_refuse ml_X7_93 rfl w2.1 rfl rfl (Nat.le_of_ble_eq_true rfl) ⟨Nat.le_of_ble_eq_true rfl, Nat.le_of_ble_eq_true rfl⟩ (fun r h2 hq hf => ?_)
          obtain ⟨rfl, hwr⟩ := hq
          exact aw_iret X hret rfl dX7_hand_68 (PoM.mk (k := 2) (σ2 := σ) (by unfold sp_hand; rw [if_neg (fun q => q (bI_y c10)), if_pos (Or.inr (fun q => bI_n c60 ((reach_iff (hv.held hkf hH)).mpr q.1)))]) hwr)
  · refine aw_ald0 X dX7_hand_13 rfl ?_
    refine aw_iconst X (1) dX7_hand_14 (by decide) rfl ?_
    refine aw_callV X dX7_hand_15 rfl (k_X7_refuse X.1 htg w1 1) cmX7_refuse ml_X7_93 rfl hmo rfl rfl (Nat.le_of_ble_eq_true rfl) ⟨Nat.le_of_ble_eq_true rfl, Nat.le_of_ble_eq_true rfl⟩ (fun r h2 hq hf => ?_)
    obtain ⟨rfl, hwr⟩ := hq
    exact aw_iret X hret rfl dX7_hand_18 (PoM.mk (k := 1) (σ2 := σ) (by unfold sp_hand; rw [if_pos (bI_n c10)]) hwr)
