/-! THE MODEL'S CALLS: grip, liftFor -/
theorem upd_id {r : Nat → Int32} {k : Nat} {x : Int32} (h : r k = x) : upd r k x = r := funext fun i => by
  by_cases q : i = k
  · rw [q, pk_us, h]
  · rw [pk_un q]
theorem upd_cm {r : Nat → Int32} {j k : Nat} {x y : Int32} (h : j ≠ k) : upd (upd r j x) k y = upd (upd r k y) j x := funext fun i => by
  by_cases q : i = k
  · rw [q, pk_us, pk_un (Ne.symm h), pk_us]
  · rw [pk_un q]
    by_cases z : i = j
    · rw [z, pk_us, pk_us]
    · rw [pk_un z, pk_un z, pk_un q]
theorem IV.low {σ : NS} (hv : IV σ) {k : Nat} (hk : k < σ.nf) (g : ¬ gripS (sdS σ k) (σ.F k) σ.F σ.nf = -1) : σ.F k 5 = 0 := by
  have h9 := (hv.2.2.2.1 k hk).2.2.2
  rcases h9 with h9 | h9 | h9
  · exact h9.2.2
  · exact h9.2.2
  · refine absurd (gripS_no (fun q => ?_) (fun q => ?_)) g
    · rcases h9.1 with e | e <;> (rw [e] at q; exact absurd q (by decide))
    · rcases h9.1 with e | e <;> (rw [e] at q; exact absurd q (by decide))
theorem IV.edge {σ : NS} (hv : IV σ) {k : Nat} (hk : k < σ.nf) (h0 : σ.F k 3 = 0) (g : ¬ gripS (sdS σ k) (σ.F k) σ.F σ.nf = -1) : (sdS σ k = 0 ∧ gripS (sdS σ k) (σ.F k) σ.F σ.nf = 2) ∨ (¬ sdS σ k = 0 ∧ ¬ gripS (sdS σ k) (σ.F k) σ.F σ.nf = 2) := by
  have ho := (hv.2.2.2.1 k hk).1
  have hn := hv.1.1
  obtain ⟨hok, hol⟩ := nI_iN ho.1 ho.2 (by omega)
  rcases (hv.2.1 _ hol).1 with e | e
  · have e9 : sdS σ k = 0 := e
    refine Or.inl ⟨e9, ?_⟩
    rw [gripS_b0 h0 e9] at g ⊢
    by_cases c : freeP σ.F σ.nf 2 ∧ figAt σ.F σ.nf 0 = -1
    · rw [if_pos c]
    · rw [if_neg c] at g
      exact absurd rfl g
  · have e9 : sdS σ k = 1 := e
    refine Or.inr ⟨by rw [e9]; decide, ?_⟩
    rw [gripS_b1 h0 e9]
    split <;> decide

set_option maxHeartbeats 4000000 in
set_option maxRecDepth 100000 in
theorem k_X7_grip {l : Launch} {s0 : State} {a0 : Array Value} {G : GG} (X : CX l s0 a0 G) {h : AH} {tg mo : Nat} {A : KA} {t : Int32} {sm : Int64} {σ : NS} (htg : tg ≠ 0) (w : MoW G h tg mo A t sm σ) (hv : IV σ) (x : Int32)  : Con l s0 G yX7_grip cX7_grip 4 (some .int) 5 2 8 tg [.ref mo, .int x] h (PoM G tg mo (sp_grip σ x)) := by
  refine Con.of X (by decide +kernel) [some (.ref mo), some (.int x), none, none] rfl (Nat.le_of_ble_eq_true rfl) (fun p e s m below meth c X hnm hret => ?_)
  have w0 := w
  obtain ⟨hmo, ⟨hlp, hls, hlf⟩, ⟨hP, hS, hF⟩, ⟨hn8, hn10, hn12⟩, hdd⟩ := id w
  refine aw_ald0 X dX7_grip_0 rfl ?_
  refine aw_iconst X (0) dX7_grip_1 (by decide) rfl ?_
  refine aw_put X fd_X7_35 fw_X7_0 dX7_grip_2 rfl htg hmo rfl rfl (Nat.le_of_ble_eq_true rfl) ?_
  refine aw_genP (Pr := fun h3 => MoW G h3 tg mo A 0 sm σ) (w0.obj 0 sm σ.v) (fun h1 w1 => ?_)
  clear hmo hlp hls hlf hP hS hF hdd
  obtain ⟨hmo, ⟨hlp, hls, hlf⟩, ⟨hP, hS, hF⟩, -, hdd⟩ := id w1
  refine aw_ald0 X dX7_grip_5 rfl ?_
  refine aw_ild1 X dX7_grip_6 rfl ?_
  refine aw_callV X dX7_grip_7 rfl (k_X7_isFigure X.1 w1 _) cmX7_isFigure ml_X7_132 rfl hmo rfl rfl (Nat.le_of_ble_eq_true rfl) ⟨Nat.le_of_ble_eq_true rfl, Nat.le_of_ble_eq_true rfl⟩ (aw_rs ?_)
  refine aw_if_ne (n2 := 19) X dX7_grip_10 rfl rfl (fun c10 => ?_) (fun c10 => ?_)
  · obtain ⟨hxk, hkf⟩ := cat_in (bI_y c10) (show σ.nf < 2 ^ 31 by omega)
    refine aw_ald0 X dX7_grip_19 rfl ?_
    refine aw_ild1 X dX7_grip_20 rfl ?_
    refine aw_callV X dX7_grip_21 rfl (k_X7_gripper X.1 htg w1 hv hxk hkf) cmX7_gripper ml_X7_135 rfl hmo rfl rfl (Nat.le_of_ble_eq_true rfl) ⟨Nat.le_of_ble_eq_true rfl, Nat.le_of_ble_eq_true rfl⟩ (fun r h2 hq hf => ?_)
    obtain ⟨rfl, hxA⟩ := hq
    have w2 := w1.ext hxA
    refine aw_ist2 X dX7_grip_24 rfl (by decide) rfl ?_
    refine aw_ild2 X dX7_grip_25 rfl ?_
    refine aw_iconst X (-1) dX7_grip_26 (by decide) rfl ?_
    refine aw_icmp_ne (n2 := 36) X dX7_grip_27 rfl rfl (fun c27 => ?_) (fun c27 => ?_)
    · refine aw_ald0 X dX7_grip_36 rfl ?_
      refine aw_get X fd_X7_16 dX7_grip_37 rfl w2.1 rfl ?_
      refine aw_ild1 X dX7_grip_40 rfl ?_
      refine aw_callV X dX7_grip_41 rfl (k_lget X.1 w2.2.1.2.2 hxk hkf (w2.2.2.1.2.2 _ hkf).1) cmJx4a65c_get_915e3 ml_X7_48 rfl w2.2.1.2.2.1 rfl rfl (Nat.le_of_ble_eq_true rfl) ⟨Nat.le_of_ble_eq_true rfl, Nat.le_of_ble_eq_true rfl⟩ (aw_rs ?_)
      refine aw_castA X dX7_grip_44 rfl (kd := 0) (by decide) cc_X7_52 (w2.2.2.1.2.2 _ hkf).2 ?_
      refine aw_ast3 X dX7_grip_47 rfl (by decide) rfl ?_
      refine aw_ald3 X dX7_grip_48 rfl ?_
      refine aw_iconst X (3) dX7_grip_49 (by decide) rfl ?_
      refine aw_iald X (3) dX7_grip_50 rfl (w2.2.2.1.2.2 _ hkf).2 rfl (by decide) (by decide) ?_
      refine aw_if_ne (n2 := 68) X dX7_grip_51 rfl rfl (fun c51 => ?_) (fun c51 => ?_)
      · refine aw_ald3 X dX7_grip_68 rfl ?_
        refine aw_iconst X (3) dX7_grip_69 (by decide) rfl ?_
        refine aw_ild2 X dX7_grip_70 rfl ?_
        refine aw_iast X (3) dX7_grip_71 rfl htg (w2.2.2.1.2.2 _ hkf).2 rfl (by decide) (by decide) ?_
        refine aw_ald3 X dX7_grip_72 rfl ?_
        refine aw_iconst X (5) dX7_grip_73 (by decide) rfl ?_
        refine aw_iconst X (0) dX7_grip_74 (by decide) rfl ?_
        refine aw_iast X (5) dX7_grip_75 rfl htg hu_s rfl (by decide) (by decide) ?_
        refine aw_ild2 X dX7_grip_76 rfl ?_
        exact aw_iret X hret rfl dX7_grip_77 (PoM.mk (k := 0) (σ2 := σ.fig (iN x) (upd (σ.Fx x) 3 (gripS (sdS σ (iN x)) (σ.Fx x) σ.F σ.nf))) (by unfold sp_grip; rw [if_neg (fun q => q (bI_y c10)), if_neg c27, if_neg c51]) (by
    simp only [hu_hu]
    rw [show upd (upd (σ.F (iN x)) 3 (gripS (sdS σ (iN x)) (σ.F (iN x)) σ.F σ.nf)) 5 0 = upd (σ.Fx x) 3 (gripS (sdS σ (iN x)) (σ.Fx x) σ.F σ.nf) by
      rw [upd_cm (show (3 : Nat) ≠ 5 by decide), upd_id (hv.low hkf c27)]]
    exact w2.fig hkf _))
      · have hed := hv.edge hkf c51 c27
        refine aw_ald3 X dX7_grip_54 rfl ?_
        refine aw_iconst X (4) dX7_grip_55 (by decide) rfl ?_
        refine aw_ild2 X dX7_grip_56 rfl ?_
        refine aw_iconst X (2) dX7_grip_57 (by decide) rfl ?_
        refine aw_icmp_ne (n2 := 65) X dX7_grip_58 rfl rfl (fun c58 => ?_) (fun c58 => ?_)
        · refine aw_bipush X (9) dX7_grip_65 (by decide) rfl ?_
          refine aw_iast X (4) dX7_grip_67 rfl htg (w2.2.2.1.2.2 _ hkf).2 rfl (by decide) (by decide) ?_
          refine aw_ald3 X dX7_grip_68 rfl ?_
          refine aw_iconst X (3) dX7_grip_69 (by decide) rfl ?_
          refine aw_ild2 X dX7_grip_70 rfl ?_
          refine aw_iast X (3) dX7_grip_71 rfl htg hu_s rfl (by decide) (by decide) ?_
          refine aw_ald3 X dX7_grip_72 rfl ?_
          refine aw_iconst X (5) dX7_grip_73 (by decide) rfl ?_
          refine aw_iconst X (0) dX7_grip_74 (by decide) rfl ?_
          refine aw_iast X (5) dX7_grip_75 rfl htg hu_s rfl (by decide) (by decide) ?_
          refine aw_ild2 X dX7_grip_76 rfl ?_
          exact aw_iret X hret rfl dX7_grip_77 (PoM.mk (k := 0) (σ2 := σ.fig (iN x) (upd (upd (σ.Fx x) 4 (if sdS σ (iN x) = 0 then 0 else 9)) 3 (gripS (sdS σ (iN x)) (σ.Fx x) σ.F σ.nf))) (by unfold sp_grip; rw [if_neg (fun q => q (bI_y c10)), if_neg c27, if_pos c51]) (by
    simp only [hu_hu]
    rw [show upd (upd (upd (σ.F (iN x)) 4 9) 3 (gripS (sdS σ (iN x)) (σ.F (iN x)) σ.F σ.nf)) 5 0 = upd (upd (σ.Fx x) 4 (if sdS σ (iN x) = 0 then 0 else 9)) 3 (gripS (sdS σ (iN x)) (σ.Fx x) σ.F σ.nf) by
      rw [if_neg (hed.elim (fun q => absurd q.2 c58) (fun q => q.1)), upd_cm (show (3 : Nat) ≠ 5 by decide), upd_cm (show (4 : Nat) ≠ 5 by decide), upd_id (hv.low hkf c27)]]
    exact w2.fig hkf _))
        · refine aw_iconst X (0) dX7_grip_61 (by decide) rfl ?_
          refine aw_goto (n := 67) X dX7_grip_62 rfl ?_
          refine aw_iast X (4) dX7_grip_67 rfl htg (w2.2.2.1.2.2 _ hkf).2 rfl (by decide) (by decide) ?_
          refine aw_ald3 X dX7_grip_68 rfl ?_
          refine aw_iconst X (3) dX7_grip_69 (by decide) rfl ?_
          refine aw_ild2 X dX7_grip_70 rfl ?_
          refine aw_iast X (3) dX7_grip_71 rfl htg hu_s rfl (by decide) (by decide) ?_
          refine aw_ald3 X dX7_grip_72 rfl ?_
          refine aw_iconst X (5) dX7_grip_73 (by decide) rfl ?_
          refine aw_iconst X (0) dX7_grip_74 (by decide) rfl ?_
          refine aw_iast X (5) dX7_grip_75 rfl htg hu_s rfl (by decide) (by decide) ?_
          refine aw_ild2 X dX7_grip_76 rfl ?_
          exact aw_iret X hret rfl dX7_grip_77 (PoM.mk (k := 0) (σ2 := σ.fig (iN x) (upd (upd (σ.Fx x) 4 (if sdS σ (iN x) = 0 then 0 else 9)) 3 (gripS (sdS σ (iN x)) (σ.Fx x) σ.F σ.nf))) (by unfold sp_grip; rw [if_neg (fun q => q (bI_y c10)), if_neg c27, if_pos c51]) (by
    simp only [hu_hu]
    rw [show upd (upd (upd (σ.F (iN x)) 4 0) 3 (gripS (sdS σ (iN x)) (σ.F (iN x)) σ.F σ.nf)) 5 0 = upd (upd (σ.Fx x) 4 (if sdS σ (iN x) = 0 then 0 else 9)) 3 (gripS (sdS σ (iN x)) (σ.Fx x) σ.F σ.nf) by
      rw [if_pos (hed.elim (fun q => q.1) (fun q => absurd c58 q.2)), upd_cm (show (3 : Nat) ≠ 5 by decide), upd_cm (show (4 : Nat) ≠ 5 by decide), upd_id (hv.low hkf c27)]]
    exact w2.fig hkf _))
    · refine aw_ald0 X dX7_grip_30 rfl ?_
      refine aw_iconst X (2) dX7_grip_31 (by decide) rfl ?_
      refine aw_callV X dX7_grip_32 rfl (k_X7_refuse X.1 htg w2 2) cmX7_refuse ml_X7_93 rfl w2.1 rfl rfl (Nat.le_of_ble_eq_true rfl) ⟨Nat.le_of_ble_eq_true rfl, Nat.le_of_ble_eq_true rfl⟩ (fun r h2 hq hf => ?_)
      obtain ⟨rfl, hwr⟩ := hq
      exact aw_iret X hret rfl dX7_grip_35 (PoM.mk (k := 2) (σ2 := σ) (by unfold sp_grip; rw [if_neg (fun q => q (bI_y c10)), if_pos c27]) hwr)
  · refine aw_ald0 X dX7_grip_13 rfl ?_
    refine aw_iconst X (1) dX7_grip_14 (by decide) rfl ?_
    refine aw_callV X dX7_grip_15 rfl (k_X7_refuse X.1 htg w1 1) cmX7_refuse ml_X7_93 rfl hmo rfl rfl (Nat.le_of_ble_eq_true rfl) ⟨Nat.le_of_ble_eq_true rfl, Nat.le_of_ble_eq_true rfl⟩ (fun r h2 hq hf => ?_)
    obtain ⟨rfl, hwr⟩ := hq
    exact aw_iret X hret rfl dX7_grip_18 (PoM.mk (k := 1) (σ2 := σ) (by unfold sp_grip; rw [if_pos (bI_n c10)]) hwr)

set_option maxHeartbeats 4000000 in
set_option maxRecDepth 100000 in
theorem k_X7_liftNow {l : Launch} {s0 : State} {a0 : Array Value} {G : GG} (X : CX l s0 a0 G) {h : AH} {tg mo : Nat} {A : KA} {t : Int32} {sm : Int64} {σ : NS} (w : MoW G h tg mo A t sm σ) (hv : IV σ) {k9 : Nat} {x : Int32} (hx9 : x = nI k9) (hk9 : k9 < σ.nf) (y : Int32)  : Con l s0 G yX7_liftNow cX7_liftNow 4 (some .int) 3 0 0 tg [.ref mo, .int x, .int y] h (RS (.int (llf (σ.F k9) σ.di y)) h) := by
  refine Con.of X (by decide +kernel) [some (.ref mo), some (.int x), some (.int y), none] rfl (Nat.le_of_ble_eq_true rfl) (fun p e s m below meth c X hnm hret => ?_)
  have w0 := w
  obtain ⟨hmo, ⟨hlp, hls, hlf⟩, ⟨hP, hS, hF⟩, ⟨hn8, hn10, hn12⟩, hdd⟩ := id w
  refine aw_iconst X (0) dX7_liftNow_0 (by decide) rfl ?_
  refine aw_ist3 X dX7_liftNow_1 rfl (by decide) rfl ?_
  refine aw_dn (n := 16) (A := fun j k => ∀ (x5 : Int32), (x5 = nI k) → (llf (σ.F k9) σ.di y = ff (fun k => y ≤ shad (σ.F k9) σ.di (nI k)) j k) → AW p l e _ s m _ below meth c _ s0 G 4 tg _ h _ _ 2 [some (.ref mo), some (.int x), some (.int y), some (.int x5)] []) ?_ ?_ 16 0 rfl 0 nI_0.symm rfl
  · intro x5 hx hI
    refine aw_ild3 X dX7_liftNow_2 rfl ?_
    refine aw_bipush X (16) dX7_liftNow_3 (by decide) rfl ?_
    refine aw_icmp_ge (n2 := 36) X dX7_liftNow_5 rfl rfl (fun c5 => ?_) (fun c5 => absurd (by rw [hx]; decide) c5)
    refine aw_iconst X (-1) dX7_liftNow_36 (by decide) rfl ?_
    exact aw_iret X hret rfl dX7_liftNow_37 (⟨by rw [hI]; rfl, rfl⟩)
  · intro j k hjk ih x5 hx hI
    have hl0 : 0 ≤ x5 := by rw [hx]; exact (show nI 0 ≤ nI k from nI_le (by omega) (by omega))
    have hl1 : x5 ≤ 15 := by rw [hx]; exact (show nI k ≤ nI 15 from nI_le (by omega) (by decide))
    have hsh := shad_at (r := σ.F k9) hv hl0 hl1
    refine aw_ild3 X dX7_liftNow_2 rfl ?_
    refine aw_bipush X (16) dX7_liftNow_3 (by decide) rfl ?_
    refine aw_icmp_ge (n2 := 36) X dX7_liftNow_5 rfl rfl (fun c5 => absurd c5 (show ¬ nI 16 ≤ x5 from ge_f hx (by omega) (by decide))) (fun c5 => ?_)
    refine aw_ald0 X dX7_liftNow_8 rfl ?_
    refine aw_ald0 X dX7_liftNow_9 rfl ?_
    refine aw_get X fd_X7_16 dX7_liftNow_10 rfl hmo rfl ?_
    refine aw_ild1 X dX7_liftNow_13 rfl ?_
    refine aw_callV X dX7_liftNow_14 rfl (k_lget X.1 hlf hx9 hk9 (hF k9 hk9).1) cmJx4a65c_get_915e3 ml_X7_48 rfl hlf.1 rfl rfl (Nat.le_of_ble_eq_true rfl) ⟨Nat.le_of_ble_eq_true rfl, Nat.le_of_ble_eq_true rfl⟩ (aw_rs ?_)
    refine aw_castA X dX7_liftNow_17 rfl (kd := 0) (by decide) cc_X7_52 (hF k9 hk9).2 ?_
    refine aw_ild3 X dX7_liftNow_20 rfl ?_
    refine aw_callV X dX7_liftNow_21 rfl (k_X7_shadow X.1 w0 (hF k9 hk9).2 x5 (hv.gap hl0 hl1).2) cmX7_shadow ml_X7_148 rfl hmo rfl rfl (Nat.le_of_ble_eq_true rfl) ⟨Nat.le_of_ble_eq_true rfl, Nat.le_of_ble_eq_true rfl⟩ (aw_rs ?_)
    refine aw_ild2 X dX7_liftNow_24 rfl ?_
    refine aw_icmp_lt (n2 := 30) X dX7_liftNow_25 rfl rfl (fun c25 => ?_) (fun c25 => ?_)
    · refine aw_iinc3 X (1) dX7_liftNow_30 (by decide) rfl (by decide) rfl ?_
      refine aw_goto (n := 2) X dX7_liftNow_33 rfl ?_
      exact ih (x5 + 1) (nx hx) (hI.trans (if_neg (by show ¬ y ≤ shad (σ.F k9) σ.di (nI k); rw [← hx, ← hsh]; exact Int32.not_le.mpr c25)))
    · refine aw_ild3 X dX7_liftNow_28 rfl ?_
      exact aw_iret X hret rfl dX7_liftNow_29 (⟨by rw [hI, hx]; exact congrArg _ (congrArg _ (if_pos (by show y ≤ shad (σ.F k9) σ.di (nI k); rw [← hx, ← hsh]; exact Int32.not_lt.mp c25))), rfl⟩)

set_option maxHeartbeats 4000000 in
set_option maxRecDepth 100000 in
theorem k_X7_liftFor {l : Launch} {s0 : State} {a0 : Array Value} {G : GG} (X : CX l s0 a0 G) {h : AH} {tg mo : Nat} {A : KA} {t : Int32} {sm : Int64} {σ : NS} (htg : tg ≠ 0) (w : MoW G h tg mo A t sm σ) (hv : IV σ) (x : Int32) (y : Int32)  : Con l s0 G yX7_liftFor cX7_liftFor 3 (some .int) 4 0 0 tg [.ref mo, .int x, .int y] h (PoM G tg mo (sp_liftFor σ x y)) := by
  refine Con.of X (by decide +kernel) [some (.ref mo), some (.int x), some (.int y)] rfl (Nat.le_of_ble_eq_true rfl) (fun p e s m below meth c X hnm hret => ?_)
  have w0 := w
  obtain ⟨hmo, ⟨hlp, hls, hlf⟩, ⟨hP, hS, hF⟩, ⟨hn8, hn10, hn12⟩, hdd⟩ := id w
  refine aw_ald0 X dX7_liftFor_0 rfl ?_
  refine aw_iconst X (0) dX7_liftFor_1 (by decide) rfl ?_
  refine aw_put X fd_X7_35 fw_X7_0 dX7_liftFor_2 rfl htg hmo rfl rfl (Nat.le_of_ble_eq_true rfl) ?_
  refine aw_genP (Pr := fun h3 => MoW G h3 tg mo A 0 sm σ) (w0.obj 0 sm σ.v) (fun h1 w1 => ?_)
  clear hmo hlp hls hlf hP hS hF hdd
  obtain ⟨hmo, ⟨hlp, hls, hlf⟩, ⟨hP, hS, hF⟩, -, hdd⟩ := id w1
  refine aw_ald0 X dX7_liftFor_5 rfl ?_
  refine aw_ild1 X dX7_liftFor_6 rfl ?_
  refine aw_callV X dX7_liftFor_7 rfl (k_X7_isFigure X.1 w1 _) cmX7_isFigure ml_X7_132 rfl hmo rfl rfl (Nat.le_of_ble_eq_true rfl) ⟨Nat.le_of_ble_eq_true rfl, Nat.le_of_ble_eq_true rfl⟩ (aw_rs ?_)
  refine aw_if_ne (n2 := 19) X dX7_liftFor_10 rfl rfl (fun c10 => ?_) (fun c10 => ?_)
  · obtain ⟨hxk, hkf⟩ := cat_in (bI_y c10) (show σ.nf < 2 ^ 31 by omega)
    refine aw_ild2 X dX7_liftFor_19 rfl ?_
    refine aw_iconst X (1) dX7_liftFor_20 (by decide) rfl ?_
    refine aw_sipush X (400) dX7_liftFor_21 (by decide) rfl ?_
    refine aw_callS X dX7_liftFor_24 rfl (k_X7_is X.1 _ _ _) cmX7_is ml_X7_42 rfl rfl (Nat.le_of_ble_eq_true rfl) ⟨Nat.le_of_ble_eq_true rfl, Nat.le_of_ble_eq_true rfl⟩ (aw_rs ?_)
    refine aw_if_eq (n2 := 39) X dX7_liftFor_27 rfl rfl (fun c27 => ?_) (fun c27 => ?_)
    · refine aw_ald0 X dX7_liftFor_39 rfl ?_
      refine aw_iconst X (2) dX7_liftFor_40 (by decide) rfl ?_
      refine aw_callV X dX7_liftFor_41 rfl (k_X7_refuse X.1 htg w1 2) cmX7_refuse ml_X7_93 rfl hmo rfl rfl (Nat.le_of_ble_eq_true rfl) ⟨Nat.le_of_ble_eq_true rfl, Nat.le_of_ble_eq_true rfl⟩ (fun r h2 hq hf => ?_)
      obtain ⟨rfl, hwr⟩ := hq
      exact aw_iret X hret rfl dX7_liftFor_44 (PoM.mk (k := 2) (σ2 := σ) (by unfold sp_liftFor; rw [if_neg (fun q => q (bI_y c10)), if_pos (isN (bI_n c27))]) hwr)
    · refine aw_ald0 X dX7_liftFor_30 rfl ?_
      refine aw_ild1 X dX7_liftFor_31 rfl ?_
      refine aw_ild2 X dX7_liftFor_32 rfl ?_
      refine aw_callV X dX7_liftFor_33 rfl (k_X7_liftNow X.1 w1 hv hxk hkf y) cmX7_liftNow ml_X7_233 rfl hmo rfl rfl (Nat.le_of_ble_eq_true rfl) ⟨Nat.le_of_ble_eq_true rfl, Nat.le_of_ble_eq_true rfl⟩ (aw_rs ?_)
      refine aw_goto (n := 44) X dX7_liftFor_36 rfl ?_
      exact aw_iret X hret rfl dX7_liftFor_44 (PoM.mk (k := 0) (σ2 := σ) (by unfold sp_liftFor; rw [if_neg (fun q => q (bI_y c10)), if_neg (isY (bI_y c27))]) (by exact w1))
  · refine aw_ald0 X dX7_liftFor_13 rfl ?_
    refine aw_iconst X (1) dX7_liftFor_14 (by decide) rfl ?_
    refine aw_callV X dX7_liftFor_15 rfl (k_X7_refuse X.1 htg w1 1) cmX7_refuse ml_X7_93 rfl hmo rfl rfl (Nat.le_of_ble_eq_true rfl) ⟨Nat.le_of_ble_eq_true rfl, Nat.le_of_ble_eq_true rfl⟩ (fun r h2 hq hf => ?_)
    obtain ⟨rfl, hwr⟩ := hq
    exact aw_iret X hret rfl dX7_liftFor_18 (PoM.mk (k := 1) (σ2 := σ) (by unfold sp_liftFor; rw [if_pos (bI_n c10)]) hwr)
