/-! THE MODEL'S CALLS: sound, gongs, figures asked, grips that can be -/
theorem q4c {q : Nat} (h : q < 4) : q = 0 ∨ q = 1 ∨ q = 2 ∨ q = 3 := by omega

set_option maxHeartbeats 4000000 in
set_option maxRecDepth 100000 in
theorem k_X7_soundNow {l : Launch} {s0 : State} {a0 : Array Value} {G : GG} (X : CX l s0 a0 G) {h : AH} {tg mo : Nat} {A : KA} {t : Int32} {sm : Int64} {σ : NS} (htg : tg ≠ 0) (w : MoW G h tg mo A t sm σ) {q9 : Nat} {x : Int32} (hq9 : x = nI q9) (hlt9 : q9 < 4)  : Con l s0 G yX7_soundNow cX7_soundNow 3 (some .int) 0 1 4 tg [.ref mo, .int x] h (RE (.int (ovl σ.o x)) h) := by
  refine Con.of X (by decide +kernel) [some (.ref mo), some (.int x), none] rfl (Nat.le_of_ble_eq_true rfl) (fun p e s m below meth c X hnm hret => ?_)
  have w0 := w
  obtain ⟨hmo, ⟨hlp, hls, hlf⟩, ⟨hP, hS, hF⟩, ⟨hn8, hn10, hn12⟩, hdd⟩ := id w
  refine aw_iconst X (4) dX7_soundNow_0 (by decide) rfl ?_
  refine aw_newi X dX7_soundNow_1 rfl (show (4 : Int32) = nI 4 by decide) (by decide) ac_int (fun q1 hq1 => ?_)
  refine aw_dup X dX7_soundNow_3 rfl rfl ?_
  refine aw_iconst X (0) dX7_soundNow_4 (by decide) rfl ?_
  refine aw_ald0 X dX7_soundNow_5 rfl ?_
  refine aw_get X fd_X7_26 dX7_soundNow_6 rfl (hu_k hq1 hmo) rfl ?_
  refine aw_iast X (0) dX7_soundNow_9 rfl htg hu_s rfl (by decide) (by decide) ?_
  rw [hu_hu]
  refine aw_dup X dX7_soundNow_10 rfl rfl ?_
  refine aw_iconst X (1) dX7_soundNow_11 (by decide) rfl ?_
  refine aw_ald0 X dX7_soundNow_12 rfl ?_
  refine aw_get X fd_X7_164 dX7_soundNow_13 rfl (hu_k hq1 hmo) rfl ?_
  refine aw_iast X (1) dX7_soundNow_16 rfl htg hu_s rfl (by decide) (by decide) ?_
  rw [hu_hu]
  refine aw_dup X dX7_soundNow_17 rfl rfl ?_
  refine aw_iconst X (2) dX7_soundNow_18 (by decide) rfl ?_
  refine aw_ald0 X dX7_soundNow_19 rfl ?_
  refine aw_get X fd_X7_167 dX7_soundNow_20 rfl (hu_k hq1 hmo) rfl ?_
  refine aw_iast X (2) dX7_soundNow_23 rfl htg hu_s rfl (by decide) (by decide) ?_
  rw [hu_hu]
  refine aw_dup X dX7_soundNow_24 rfl rfl ?_
  refine aw_iconst X (3) dX7_soundNow_25 (by decide) rfl ?_
  refine aw_ald0 X dX7_soundNow_26 rfl ?_
  refine aw_get X fd_X7_161 dX7_soundNow_27 rfl (hu_k hq1 hmo) rfl ?_
  refine aw_iast X (3) dX7_soundNow_30 rfl htg hu_s rfl (by decide) (by decide) ?_
  rw [hu_hu]
  refine aw_ast2 X dX7_soundNow_31 rfl (by decide) rfl ?_
  refine aw_ald2 X dX7_soundNow_32 rfl ?_
  refine aw_ild1 X dX7_soundNow_33 rfl ?_
  refine aw_iald X (q9) dX7_soundNow_34 rfl hu_s hq9 hlt9 (by decide) ?_
  exact aw_iret X hret rfl dX7_soundNow_35 (⟨by rcases q4c hlt9 with e | e | e | e <;> (subst e; rw [hq9]; rfl), fun a c e => hu_k hq1 e⟩)

set_option maxHeartbeats 4000000 in
set_option maxRecDepth 100000 in
theorem k_X7_cycle {l : Launch} {s0 : State} {a0 : Array Value} {G : GG} (X : CX l s0 a0 G) {h : AH} {tg mo : Nat} {A : KA} {t : Int32} {sm : Int64} {σ : NS} (htg : tg ≠ 0) (w : MoW G h tg mo A t sm σ) {q9 : Nat} (hq9 : σ.o 0 = nI q9) (hlt9 : q9 < 4)  : Con l s0 G yX7_cycle cX7_cycle 2 (some .int) 0 1 4 tg [.ref mo] h (RE (.int (cyc (σ.o 0))) h) := by
  refine Con.of X (by decide +kernel) [some (.ref mo), none] rfl (Nat.le_of_ble_eq_true rfl) (fun p e s m below meth c X hnm hret => ?_)
  have w0 := w
  obtain ⟨hmo, ⟨hlp, hls, hlf⟩, ⟨hP, hS, hF⟩, ⟨hn8, hn10, hn12⟩, hdd⟩ := id w
  refine aw_iconst X (4) dX7_cycle_0 (by decide) rfl ?_
  refine aw_newi X dX7_cycle_1 rfl (show (4 : Int32) = nI 4 by decide) (by decide) ac_int (fun q1 hq1 => ?_)
  refine aw_dup X dX7_cycle_3 rfl rfl ?_
  refine aw_iconst X (0) dX7_cycle_4 (by decide) rfl ?_
  refine aw_bipush X (8) dX7_cycle_5 (by decide) rfl ?_
  refine aw_iast X (0) dX7_cycle_7 rfl htg hu_s rfl (by decide) (by decide) ?_
  rw [hu_hu]
  refine aw_dup X dX7_cycle_8 rfl rfl ?_
  refine aw_iconst X (1) dX7_cycle_9 (by decide) rfl ?_
  refine aw_bipush X (16) dX7_cycle_10 (by decide) rfl ?_
  refine aw_iast X (1) dX7_cycle_12 rfl htg hu_s rfl (by decide) (by decide) ?_
  rw [hu_hu]
  refine aw_dup X dX7_cycle_13 rfl rfl ?_
  refine aw_iconst X (2) dX7_cycle_14 (by decide) rfl ?_
  refine aw_bipush X (12) dX7_cycle_15 (by decide) rfl ?_
  refine aw_iast X (2) dX7_cycle_17 rfl htg hu_s rfl (by decide) (by decide) ?_
  rw [hu_hu]
  refine aw_dup X dX7_cycle_18 rfl rfl ?_
  refine aw_iconst X (3) dX7_cycle_19 (by decide) rfl ?_
  refine aw_bipush X (32) dX7_cycle_20 (by decide) rfl ?_
  refine aw_iast X (3) dX7_cycle_22 rfl htg hu_s rfl (by decide) (by decide) ?_
  rw [hu_hu]
  refine aw_ast1 X dX7_cycle_23 rfl (by decide) rfl ?_
  refine aw_ald1 X dX7_cycle_24 rfl ?_
  refine aw_ald0 X dX7_cycle_25 rfl ?_
  refine aw_get X fd_X7_26 dX7_cycle_26 rfl (hu_k hq1 hmo) rfl ?_
  refine aw_iald X (q9) dX7_cycle_29 rfl hu_s hq9 hlt9 (by decide) ?_
  exact aw_iret X hret rfl dX7_cycle_30 (⟨by rcases q4c hlt9 with e | e | e | e <;> (subst e; rw [hq9]; rfl), fun a c e => hu_k hq1 e⟩)

set_option maxHeartbeats 4000000 in
set_option maxRecDepth 100000 in
theorem k_X7_sound {l : Launch} {s0 : State} {a0 : Array Value} {G : GG} (X : CX l s0 a0 G) {h : AH} {tg mo : Nat} {A : KA} {t : Int32} {sm : Int64} {σ : NS} (htg : tg ≠ 0) (w : MoW G h tg mo A t sm σ) (x : Int32)  : Con l s0 G yX7_sound cX7_sound 2 (some .int) 4 1 4 tg [.ref mo, .int x] h (PoM G tg mo (sp_sound σ x)) := by
  refine Con.of X (by decide +kernel) [some (.ref mo), some (.int x)] rfl (Nat.le_of_ble_eq_true rfl) (fun p e s m below meth c X hnm hret => ?_)
  have w0 := w
  obtain ⟨hmo, ⟨hlp, hls, hlf⟩, ⟨hP, hS, hF⟩, ⟨hn8, hn10, hn12⟩, hdd⟩ := id w
  refine aw_ald0 X dX7_sound_0 rfl ?_
  refine aw_iconst X (0) dX7_sound_1 (by decide) rfl ?_
  refine aw_put X fd_X7_35 fw_X7_0 dX7_sound_2 rfl htg hmo rfl rfl (Nat.le_of_ble_eq_true rfl) ?_
  refine aw_genP (Pr := fun h3 => MoW G h3 tg mo A 0 sm σ) (w0.obj 0 sm σ.v) (fun h1 w1 => ?_)
  clear hmo hlp hls hlf hP hS hF hdd
  obtain ⟨hmo, ⟨hlp, hls, hlf⟩, ⟨hP, hS, hF⟩, -, hdd⟩ := id w1
  refine aw_ild1 X dX7_sound_5 rfl ?_
  refine aw_iconst X (0) dX7_sound_6 (by decide) rfl ?_
  refine aw_iconst X (3) dX7_sound_7 (by decide) rfl ?_
  refine aw_callS X dX7_sound_8 rfl (k_X7_is X.1 _ _ _) cmX7_is ml_X7_42 rfl rfl (Nat.le_of_ble_eq_true rfl) ⟨Nat.le_of_ble_eq_true rfl, Nat.le_of_ble_eq_true rfl⟩ (aw_rs ?_)
  refine aw_if_eq (n2 := 22) X dX7_sound_11 rfl rfl (fun c11 => ?_) (fun c11 => ?_)
  · refine aw_ald0 X dX7_sound_22 rfl ?_
    refine aw_iconst X (1) dX7_sound_23 (by decide) rfl ?_
    refine aw_callV X dX7_sound_24 rfl (k_X7_refuse X.1 htg w1 1) cmX7_refuse ml_X7_93 rfl hmo rfl rfl (Nat.le_of_ble_eq_true rfl) ⟨Nat.le_of_ble_eq_true rfl, Nat.le_of_ble_eq_true rfl⟩ (fun r h2 hq hf => ?_)
    obtain ⟨rfl, hwr⟩ := hq
    exact aw_iret X hret rfl dX7_sound_27 (PoM.mk (k := 1) (σ2 := σ) (by unfold sp_sound; rw [if_pos (isN (bI_n c11))]) hwr)
  · obtain ⟨hq9, hlt9⟩ := nI_iN (n := 4) (bI_y c11).1 (Int32.lt_of_le_of_lt (bI_y c11).2 (by decide)) (by decide)
    refine aw_ald0 X dX7_sound_14 rfl ?_
    refine aw_ild1 X dX7_sound_15 rfl ?_
    refine aw_callV X dX7_sound_16 rfl (k_X7_soundNow X.1 htg w1 hq9 hlt9) cmX7_soundNow ml_X7_215 rfl hmo rfl rfl (Nat.le_of_ble_eq_true rfl) ⟨Nat.le_of_ble_eq_true rfl, Nat.le_of_ble_eq_true rfl⟩ (fun r h2 hq hf => ?_)
    obtain ⟨rfl, hxA⟩ := hq
    refine aw_goto (n := 27) X dX7_sound_19 rfl ?_
    exact aw_iret X hret rfl dX7_sound_27 (PoM.mk (k := 0) (σ2 := σ) (by unfold sp_sound; rw [if_neg (isY (bI_y c11))]) (by exact w1.ext hxA))

theorem IV.mood {σ : NS} (hv : IV σ) (h : ¬ σ.o 0 = -1) : (σ.o 0 = nI (iN (σ.o 0)) ∧ iN (σ.o 0) < 4) ∧ 0 < 8 * σ.o 1 ∧ ¬ 8 * σ.o 1 = 0 := by
  have h9 := hv.2.2.2.2.2.2.1
  rcases h9 with h9 | h9
  · exact absurd h9.1 h
  · have hs := nI_iN (n := 4) (Int32.le_trans (by decide) h9.2.1.1) (Int32.lt_of_le_of_lt h9.2.1.2 (by decide)) (by decide)
    refine ⟨nI_iN (n := 4) h9.1.1 (Int32.lt_of_le_of_lt h9.1.2 (by decide)) (by decide), ?_⟩
    have h1 := h9.2.1.1
    rw [hs.1] at h1 ⊢
    rcases q4c hs.2 with e | e | e | e <;> rw [e] at h1 ⊢ <;> first | exact absurd h1 (by decide) | decide
theorem IV.mute {σ : NS} (hv : IV σ) (h : σ.o 0 = -1) : σ.o 1 = 0 := by
  have h9 := hv.2.2.2.2.2.2.1
  rcases h9 with h9 | h9
  · exact h9.2.1
  · have := h9.1.1
    rw [h] at this
    exact absurd this (by decide)

set_option maxHeartbeats 4000000 in
set_option maxRecDepth 100000 in
theorem k_X7_gongNow {l : Launch} {s0 : State} {a0 : Array Value} {G : GG} (X : CX l s0 a0 G) {h : AH} {tg mo : Nat} {A : KA} {t : Int32} {sm : Int64} {σ : NS} (htg : tg ≠ 0) (w : MoW G h tg mo A t sm σ) (hv : IV σ)  : Con l s0 G yX7_gongNow cX7_gongNow 1 (some .int) 2 1 4 tg [.ref mo] h (RE (.int (ongo σ.o)) h) := by
  refine Con.of X (by decide +kernel) [some (.ref mo)] rfl (Nat.le_of_ble_eq_true rfl) (fun p e s m below meth c X hnm hret => ?_)
  have w0 := w
  obtain ⟨hmo, ⟨hlp, hls, hlf⟩, ⟨hP, hS, hF⟩, ⟨hn8, hn10, hn12⟩, hdd⟩ := id w
  refine aw_ald0 X dX7_gongNow_0 rfl ?_
  refine aw_get X fd_X7_26 dX7_gongNow_1 rfl hmo rfl ?_
  refine aw_iconst X (-1) dX7_gongNow_4 (by decide) rfl ?_
  refine aw_icmp_ne (n2 := 12) X dX7_gongNow_5 rfl rfl (fun c5 => ?_) (fun c5 => ?_)
  · obtain ⟨⟨hq9, hlt9⟩, hpos, hnz⟩ := hv.mood c5
    refine aw_ald0 X dX7_gongNow_12 rfl ?_
    refine aw_callV X dX7_gongNow_13 rfl (k_X7_cycle X.1 htg w0 hq9 hlt9) cmX7_cycle ml_X7_170 rfl hmo rfl rfl (Nat.le_of_ble_eq_true rfl) ⟨Nat.le_of_ble_eq_true rfl, Nat.le_of_ble_eq_true rfl⟩ (fun r h2 hq hf => ?_)
    obtain ⟨rfl, hxA⟩ := hq
    refine aw_ald0 X dX7_gongNow_16 rfl ?_
    refine aw_get X fd_X7_167 dX7_gongNow_17 rfl (hxA _ _ hmo) rfl ?_
    refine aw_isub X dX7_gongNow_20 rfl ?_
    refine aw_bipush X (8) dX7_gongNow_21 (by decide) rfl ?_
    refine aw_ald0 X dX7_gongNow_23 rfl ?_
    refine aw_get X fd_X7_164 dX7_gongNow_24 rfl (hxA _ _ hmo) rfl ?_
    refine aw_imul X dX7_gongNow_27 rfl ?_
    refine aw_iadd X dX7_gongNow_28 rfl ?_
    refine aw_iconst X (1) dX7_gongNow_29 (by decide) rfl ?_
    refine aw_isub X dX7_gongNow_30 rfl ?_
    refine aw_bipush X (8) dX7_gongNow_31 (by decide) rfl ?_
    refine aw_ald0 X dX7_gongNow_33 rfl ?_
    refine aw_get X fd_X7_164 dX7_gongNow_34 rfl (hxA _ _ hmo) rfl ?_
    refine aw_imul X dX7_gongNow_37 rfl ?_
    refine aw_idiv X dX7_gongNow_38 (hnz) rfl ?_
    exact aw_iret X hret rfl dX7_gongNow_39 (⟨by unfold ongo; rw [if_pos hpos], hxA⟩)
  · refine aw_iconst X (-1) dX7_gongNow_8 (by decide) rfl ?_
    refine aw_goto (n := 39) X dX7_gongNow_9 rfl ?_
    exact aw_iret X hret rfl dX7_gongNow_39 (⟨by unfold ongo; rw [hv.mute c5]; rfl, fun a c e => e⟩)

set_option maxHeartbeats 4000000 in
set_option maxRecDepth 100000 in
theorem k_X7_nextGong {l : Launch} {s0 : State} {a0 : Array Value} {G : GG} (X : CX l s0 a0 G) {h : AH} {tg mo : Nat} {A : KA} {t : Int32} {sm : Int64} {σ : NS} (htg : tg ≠ 0) (w : MoW G h tg mo A t sm σ) (hv : IV σ)  : Con l s0 G yX7_nextGong cX7_nextGong 1 (some .int) 4 1 4 tg [.ref mo] h (fun r h2 => some (.int (ongo σ.o)) = r ∧ MoW G h2 tg mo A 0 sm σ) := by
  refine Con.of X (by decide +kernel) [some (.ref mo)] rfl (Nat.le_of_ble_eq_true rfl) (fun p e s m below meth c X hnm hret => ?_)
  have w0 := w
  obtain ⟨hmo, ⟨hlp, hls, hlf⟩, ⟨hP, hS, hF⟩, ⟨hn8, hn10, hn12⟩, hdd⟩ := id w
  refine aw_ald0 X dX7_nextGong_0 rfl ?_
  refine aw_iconst X (0) dX7_nextGong_1 (by decide) rfl ?_
  refine aw_put X fd_X7_35 fw_X7_0 dX7_nextGong_2 rfl htg hmo rfl rfl (Nat.le_of_ble_eq_true rfl) ?_
  refine aw_genP (Pr := fun h3 => MoW G h3 tg mo A 0 sm σ) (w0.obj 0 sm σ.v) (fun h1 w1 => ?_)
  clear hmo hlp hls hlf hP hS hF hdd
  obtain ⟨hmo, ⟨hlp, hls, hlf⟩, ⟨hP, hS, hF⟩, -, hdd⟩ := id w1
  refine aw_ald0 X dX7_nextGong_5 rfl ?_
  refine aw_callV X dX7_nextGong_6 rfl (k_X7_gongNow X.1 htg w1 hv) cmX7_gongNow ml_X7_224 rfl hmo rfl rfl (Nat.le_of_ble_eq_true rfl) ⟨Nat.le_of_ble_eq_true rfl, Nat.le_of_ble_eq_true rfl⟩ (fun r h2 hq hf => ?_)
  obtain ⟨rfl, hxA⟩ := hq
  exact aw_iret X hret rfl dX7_nextGong_9 (⟨rfl, w1.ext hxA⟩)

theorem IV.fig5 {σ : NS} (hv : IV σ) {k : Nat} (hk : k < σ.nf) : 0 ≤ σ.F k 5 ∧ σ.F k 5 ≤ 15 := by
  have h9 := (hv.2.2.2.1 k hk).2.2.2
  rcases h9 with h9 | h9 | h9
  · rw [h9.2.2]; decide
  · rw [h9.2.2]; decide
  · exact h9.2.2

set_option maxHeartbeats 4000000 in
set_option maxRecDepth 100000 in
theorem k_X7_ofFigureNow {l : Launch} {s0 : State} {a0 : Array Value} {G : GG} (X : CX l s0 a0 G) {h : AH} {tg mo : Nat} {A : KA} {t : Int32} {sm : Int64} {σ : NS} (w : MoW G h tg mo A t sm σ) (hv : IV σ) {k : Nat} {x : Int32} (hx : x = nI k) (hk : k < σ.nf) {q9 : Nat} {y : Int32} (hq9 : y = nI q9) (hlt9 : q9 < 8)  : Con l s0 G yX7_ofFigureNow cX7_ofFigureNow 4 (some .int) 3 0 0 tg [.ref mo, .int x, .int y] h (RS (.int (fvl (σ.F k) σ.di σ.sw y)) h) := by
  refine Con.of X (by decide +kernel) [some (.ref mo), some (.int x), some (.int y), none] rfl (Nat.le_of_ble_eq_true rfl) (fun p e s m below meth c X hnm hret => ?_)
  have w0 := w
  obtain ⟨hmo, ⟨hlp, hls, hlf⟩, ⟨hP, hS, hF⟩, ⟨hn8, hn10, hn12⟩, hdd⟩ := id w
  have hl := hv.fig5 hk
  refine aw_ald0 X dX7_ofFigureNow_0 rfl ?_
  refine aw_get X fd_X7_16 dX7_ofFigureNow_1 rfl hmo rfl ?_
  refine aw_ild1 X dX7_ofFigureNow_4 rfl ?_
  refine aw_callV X dX7_ofFigureNow_5 rfl (k_lget X.1 hlf hx hk (hF k hk).1) cmJx4a65c_get_915e3 ml_X7_48 rfl hlf.1 rfl rfl (Nat.le_of_ble_eq_true rfl) ⟨Nat.le_of_ble_eq_true rfl, Nat.le_of_ble_eq_true rfl⟩ (aw_rs ?_)
  refine aw_castA X dX7_ofFigureNow_8 rfl (kd := 0) (by decide) cc_X7_52 (hF k hk).2 ?_
  refine aw_ast3 X dX7_ofFigureNow_11 rfl (by decide) rfl ?_
  refine aw_ild2 X dX7_ofFigureNow_12 rfl ?_
  refine aw_bipush X (6) dX7_ofFigureNow_13 (by decide) rfl ?_
  refine aw_icmp_ge (n2 := 22) X dX7_ofFigureNow_15 rfl rfl (fun c15 => ?_) (fun c15 => ?_)
  · refine aw_ild2 X dX7_ofFigureNow_22 rfl ?_
    refine aw_bipush X (6) dX7_ofFigureNow_23 (by decide) rfl ?_
    refine aw_icmp_ne (n2 := 39) X dX7_ofFigureNow_25 rfl rfl (fun c25 => ?_) (fun c25 => ?_)
    · refine aw_ald3 X dX7_ofFigureNow_39 rfl ?_
      refine aw_iconst X (5) dX7_ofFigureNow_40 (by decide) rfl ?_
      refine aw_iald X (5) dX7_ofFigureNow_41 rfl (hF k hk).2 rfl (by decide) (by decide) ?_
      refine aw_ald0 X dX7_ofFigureNow_42 rfl ?_
      refine aw_get X fd_X7_120 dX7_ofFigureNow_43 rfl hmo rfl ?_
      refine aw_iconst X (1) dX7_ofFigureNow_46 (by decide) rfl ?_
      refine aw_iadd X dX7_ofFigureNow_47 rfl ?_
      refine aw_imul X dX7_ofFigureNow_48 rfl ?_
      refine aw_iconst X (4) dX7_ofFigureNow_49 (by decide) rfl ?_
      refine aw_idiv X dX7_ofFigureNow_50 (by decide) rfl ?_
      refine aw_ald3 X dX7_ofFigureNow_51 rfl ?_
      refine aw_iconst X (2) dX7_ofFigureNow_52 (by decide) rfl ?_
      refine aw_iald X (2) dX7_ofFigureNow_53 rfl (hF k hk).2 rfl (by decide) (by decide) ?_
      refine aw_bipush X (10) dX7_ofFigureNow_54 (by decide) rfl ?_
      refine aw_idiv X dX7_ofFigureNow_56 (by decide) rfl ?_
      refine aw_iadd X dX7_ofFigureNow_57 rfl ?_
      have h7 : q9 = 7 := by
        have h6 : 6 ≤ q9 := Nat.le_of_not_lt (fun z => Int32.not_le.mpr (show nI q9 < nI 6 from nI_lt z (by decide)) (by rw [← hq9]; exact c15))
        have h8 : ¬ q9 = 6 := fun z => c25 (by rw [hq9, z]; decide)
        omega
      subst h7
      exact aw_iret X hret rfl dX7_ofFigureNow_58 (⟨by rw [hq9]; rfl, rfl⟩)
    · refine aw_ald0 X dX7_ofFigureNow_28 rfl ?_
      refine aw_ald3 X dX7_ofFigureNow_29 rfl ?_
      refine aw_ald3 X dX7_ofFigureNow_30 rfl ?_
      refine aw_iconst X (5) dX7_ofFigureNow_31 (by decide) rfl ?_
      refine aw_iald X (5) dX7_ofFigureNow_32 rfl (hF k hk).2 rfl (by decide) (by decide) ?_
      refine aw_callV X dX7_ofFigureNow_33 rfl (k_X7_shadow X.1 w0 (hF k hk).2 (σ.F k 5) (hv.gap hl.1 hl.2).2) cmX7_shadow ml_X7_148 rfl hmo rfl rfl (Nat.le_of_ble_eq_true rfl) ⟨Nat.le_of_ble_eq_true rfl, Nat.le_of_ble_eq_true rfl⟩ (aw_rs ?_)
      refine aw_goto (n := 58) X dX7_ofFigureNow_36 rfl ?_
      exact aw_iret X hret rfl dX7_ofFigureNow_58 (⟨by rw [shad_at hv hl.1 hl.2, c25]; rfl, rfl⟩)
  · have h6 : q9 < 6 := Nat.lt_of_not_le (fun z => c15 (by rw [hq9]; exact (show nI 6 ≤ nI q9 from nI_le z (by omega))))
    refine aw_ald3 X dX7_ofFigureNow_18 rfl ?_
    refine aw_ild2 X dX7_ofFigureNow_19 rfl ?_
    refine aw_iald X (q9) dX7_ofFigureNow_20 rfl (hF k hk).2 hq9 h6 (by decide) ?_
    have h9 : q9 = 0 ∨ q9 = 1 ∨ q9 = 2 ∨ q9 = 3 ∨ q9 = 4 ∨ q9 = 5 := by omega
    exact aw_iret X hret rfl dX7_ofFigureNow_21 (⟨by rw [hq9]; rcases h9 with e | e | e | e | e | e <;> (subst e; rfl), rfl⟩)

set_option maxHeartbeats 4000000 in
set_option maxRecDepth 100000 in
theorem k_X7_ofFigure {l : Launch} {s0 : State} {a0 : Array Value} {G : GG} (X : CX l s0 a0 G) {h : AH} {tg mo : Nat} {A : KA} {t : Int32} {sm : Int64} {σ : NS} (htg : tg ≠ 0) (w : MoW G h tg mo A t sm σ) (hv : IV σ) (x : Int32) (y : Int32)  : Con l s0 G yX7_ofFigure cX7_ofFigure 3 (some .int) 4 0 0 tg [.ref mo, .int x, .int y] h (PoM G tg mo (sp_ofFigure σ x y)) := by
  refine Con.of X (by decide +kernel) [some (.ref mo), some (.int x), some (.int y)] rfl (Nat.le_of_ble_eq_true rfl) (fun p e s m below meth c X hnm hret => ?_)
  have w0 := w
  obtain ⟨hmo, ⟨hlp, hls, hlf⟩, ⟨hP, hS, hF⟩, ⟨hn8, hn10, hn12⟩, hdd⟩ := id w
  refine aw_ald0 X dX7_ofFigure_0 rfl ?_
  refine aw_iconst X (0) dX7_ofFigure_1 (by decide) rfl ?_
  refine aw_put X fd_X7_35 fw_X7_0 dX7_ofFigure_2 rfl htg hmo rfl rfl (Nat.le_of_ble_eq_true rfl) ?_
  refine aw_genP (Pr := fun h3 => MoW G h3 tg mo A 0 sm σ) (w0.obj 0 sm σ.v) (fun h1 w1 => ?_)
  clear hmo hlp hls hlf hP hS hF hdd
  obtain ⟨hmo, ⟨hlp, hls, hlf⟩, ⟨hP, hS, hF⟩, -, hdd⟩ := id w1
  refine aw_ald0 X dX7_ofFigure_5 rfl ?_
  refine aw_ild1 X dX7_ofFigure_6 rfl ?_
  refine aw_callV X dX7_ofFigure_7 rfl (k_X7_isFigure X.1 w1 _) cmX7_isFigure ml_X7_132 rfl hmo rfl rfl (Nat.le_of_ble_eq_true rfl) ⟨Nat.le_of_ble_eq_true rfl, Nat.le_of_ble_eq_true rfl⟩ (aw_rs ?_)
  refine aw_if_ne (n2 := 19) X dX7_ofFigure_10 rfl rfl (fun c10 => ?_) (fun c10 => ?_)
  · obtain ⟨hxk, hkf⟩ := cat_in (bI_y c10) (show σ.nf < 2 ^ 31 by omega)
    refine aw_ild2 X dX7_ofFigure_19 rfl ?_
    refine aw_iconst X (0) dX7_ofFigure_20 (by decide) rfl ?_
    refine aw_bipush X (7) dX7_ofFigure_21 (by decide) rfl ?_
    refine aw_callS X dX7_ofFigure_23 rfl (k_X7_is X.1 _ _ _) cmX7_is ml_X7_42 rfl rfl (Nat.le_of_ble_eq_true rfl) ⟨Nat.le_of_ble_eq_true rfl, Nat.le_of_ble_eq_true rfl⟩ (aw_rs ?_)
    refine aw_if_eq (n2 := 38) X dX7_ofFigure_26 rfl rfl (fun c26 => ?_) (fun c26 => ?_)
    · refine aw_ald0 X dX7_ofFigure_38 rfl ?_
      refine aw_iconst X (2) dX7_ofFigure_39 (by decide) rfl ?_
      refine aw_callV X dX7_ofFigure_40 rfl (k_X7_refuse X.1 htg w1 2) cmX7_refuse ml_X7_93 rfl hmo rfl rfl (Nat.le_of_ble_eq_true rfl) ⟨Nat.le_of_ble_eq_true rfl, Nat.le_of_ble_eq_true rfl⟩ (fun r h2 hq hf => ?_)
      obtain ⟨rfl, hwr⟩ := hq
      exact aw_iret X hret rfl dX7_ofFigure_43 (PoM.mk (k := 2) (σ2 := σ) (by unfold sp_ofFigure; rw [if_neg (fun q => q (bI_y c10)), if_pos (isN (bI_n c26))]) hwr)
    · obtain ⟨hq9, hlt9⟩ := nI_iN (n := 8) (bI_y c26).1 (Int32.lt_of_le_of_lt (bI_y c26).2 (by decide)) (by decide)
      refine aw_ald0 X dX7_ofFigure_29 rfl ?_
      refine aw_ild1 X dX7_ofFigure_30 rfl ?_
      refine aw_ild2 X dX7_ofFigure_31 rfl ?_
      refine aw_callV X dX7_ofFigure_32 rfl (k_X7_ofFigureNow X.1 w1 hv hxk hkf hq9 hlt9) cmX7_ofFigureNow ml_X7_209 rfl hmo rfl rfl (Nat.le_of_ble_eq_true rfl) ⟨Nat.le_of_ble_eq_true rfl, Nat.le_of_ble_eq_true rfl⟩ (aw_rs ?_)
      refine aw_goto (n := 43) X dX7_ofFigure_35 rfl ?_
      exact aw_iret X hret rfl dX7_ofFigure_43 (PoM.mk (k := 0) (σ2 := σ) (by unfold sp_ofFigure; rw [if_neg (fun q => q (bI_y c10)), if_neg (isY (bI_y c26))]) (by exact w1))
  · refine aw_ald0 X dX7_ofFigure_13 rfl ?_
    refine aw_iconst X (1) dX7_ofFigure_14 (by decide) rfl ?_
    refine aw_callV X dX7_ofFigure_15 rfl (k_X7_refuse X.1 htg w1 1) cmX7_refuse ml_X7_93 rfl hmo rfl rfl (Nat.le_of_ble_eq_true rfl) ⟨Nat.le_of_ble_eq_true rfl, Nat.le_of_ble_eq_true rfl⟩ (fun r h2 hq hf => ?_)
    obtain ⟨rfl, hwr⟩ := hq
    exact aw_iret X hret rfl dX7_ofFigure_18 (PoM.mk (k := 1) (σ2 := σ) (by unfold sp_ofFigure; rw [if_pos (bI_n c10)]) hwr)
