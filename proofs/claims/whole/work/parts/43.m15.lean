/-! THE MODEL'S CALLS: speak, offer, pass -/
def sgn (x : Int32) : Int32 := (x >>> ((31 : Int32) &&& 31)) ||| (((-x).toUInt32 >>> ((31 : Int32).toUInt32 &&& Int32.toUInt32 31)).toInt32)
theorem sgn_lvl {r q : Int32} (hr : 0 ≤ r ∧ r ≤ 3) (hq : 0 ≤ q ∧ q ≤ 3) : sgn (q - r) = lvl r q := by
  obtain ⟨a, ha, e1⟩ := i_le (n := 3) hr.1 hr.2 (by decide)
  obtain ⟨b, hb, e2⟩ := i_le (n := 3) hq.1 hq.2 (by decide)
  rw [e1, e2]
  exact (by decide +kernel : ∀ a, a < 4 → ∀ b, b < 4 → sgn (nI b - nI a) = lvl (nI a) (nI b)) a (by omega) b (by omega)
theorem ti_e {t : Int32} (e : Int32) : t + e / 3 + 1 = t + (1 + e / 3) := by rw [Int32.add_assoc, Int32.add_comm 1]

set_option maxHeartbeats 4000000 in
set_option maxRecDepth 100000 in
theorem k_signum {l : Launch} {s0 : State} {a0 : Array Value} {G : GG} (X : CX l s0 a0 G) {h : AH} {tg : Nat} (x : Int32)  : Con l s0 G yJ6_signum_0f7a4 cJ6_signum_0f7a4 1 (some .int) 0 0 0 tg [.int x] h (RS (.int (sgn x)) h) := by
  refine Con.of X (by decide +kernel) [some (.int x)] rfl (Nat.le_of_ble_eq_true rfl) (fun p e s m below meth c X hnm hret => ?_)
  refine aw_ild0 X dJ6_signum_0f7a4_0 rfl ?_
  refine aw_bipush X (31) dJ6_signum_0f7a4_1 (by decide) rfl ?_
  refine aw_ishr X dJ6_signum_0f7a4_3 rfl ?_
  refine aw_ild0 X dJ6_signum_0f7a4_4 rfl ?_
  refine aw_ineg X dJ6_signum_0f7a4_5 rfl ?_
  refine aw_bipush X (31) dJ6_signum_0f7a4_6 (by decide) rfl ?_
  refine aw_iushr X dJ6_signum_0f7a4_8 rfl ?_
  refine aw_ior X dJ6_signum_0f7a4_9 rfl ?_
  exact aw_iret X hret rfl dJ6_signum_0f7a4_10 (⟨rfl, rfl⟩)

set_option maxHeartbeats 4000000 in
set_option maxRecDepth 100000 in
theorem k_X7_offer {l : Launch} {s0 : State} {a0 : Array Value} {G : GG} (X : CX l s0 a0 G) {h : AH} {tg mo : Nat} {A : KA} {t : Int32} {sm : Int64} {σ : NS} (htg : tg ≠ 0) (w : MoW G h tg mo A t sm σ) (hv : IV σ) {m9 : Nat} (hm : (sp_offer σ).1 = 0 → 3 ≤ m9)  : Con l s0 G yX7_offer cX7_offer 1 (some .int) 5 (25 * m9) (100 * m9) tg [.ref mo] h (PoM G tg mo (sp_offer σ)) := by
  refine Con.of X (by decide +kernel) [some (.ref mo)] rfl (Nat.le_of_ble_eq_true rfl) (fun p e s m below meth c X hnm hret => ?_)
  have w0 := w
  obtain ⟨hmo, ⟨hlp, hls, hlf⟩, ⟨hP, hS, hF⟩, ⟨hn8, hn10, hn12⟩, hdd⟩ := id w
  obtain ⟨bb, hbb⟩ : ∃ bb, bb = 25 * m9 := ⟨_, rfl⟩
  obtain ⟨dd, hdd9⟩ : ∃ dd, dd = 100 * m9 := ⟨_, rfl⟩
  refine AW.mono (bc2 := bb) (bs2 := dd) (by omega) (by omega) ?_
  refine aw_ald0 X dX7_offer_0 rfl ?_
  refine aw_iconst X (0) dX7_offer_1 (by decide) rfl ?_
  refine aw_put X fd_X7_35 fw_X7_0 dX7_offer_2 rfl htg hmo rfl rfl (Nat.le_of_ble_eq_true rfl) ?_
  refine aw_genP (Pr := fun h3 => MoW G h3 tg mo A 0 sm σ) (w0.obj 0 sm σ.v) (fun h1 w1 => ?_)
  clear hmo hlp hls hlf hP hS hF hdd
  obtain ⟨hmo, ⟨hlp, hls, hlf⟩, ⟨hP, hS, hF⟩, -, hdd⟩ := id w1
  refine aw_ald0 X dX7_offer_5 rfl ?_
  refine aw_get X fd_X7_86 dX7_offer_6 rfl hmo rfl ?_
  refine aw_iconst X (3) dX7_offer_9 (by decide) rfl ?_
  refine aw_iadd X dX7_offer_10 rfl ?_
  refine aw_sipush X (540) dX7_offer_11 (by decide) rfl ?_
  refine aw_icmp_le (n2 := 23) X dX7_offer_14 rfl rfl (fun c14 => ?_) (fun c14 => ?_)
  · refine aw_ald0 X dX7_offer_23 rfl ?_
    refine aw_bipush X (30) dX7_offer_24 (by decide) rfl ?_
    refine aw_ald0 X dX7_offer_26 rfl ?_
    refine aw_get X fd_X7_32 dX7_offer_27 rfl hmo rfl ?_
    refine aw_iconst X (5) dX7_offer_30 (by decide) rfl ?_
    refine aw_iadd X dX7_offer_31 rfl ?_
    refine aw_mmin X dX7_offer_32 rfl ⟨ml_X7_62, mm_min⟩ (Nat.le_of_ble_eq_true rfl) (Nat.le_of_ble_eq_true rfl) ?_
    skip
    refine aw_put X fd_X7_32 fw_X7_13 dX7_offer_35 rfl htg hmo rfl rfl (Nat.le_of_ble_eq_true rfl) ?_
    have h0 : (sp_offer σ).1 = 0 := by unfold sp_offer; rw [if_neg (fun q => q c14)]
    have hm3 := hm h0
    refine aw_genP (Pr := fun h3 => ∃ σ1, σ1 = ofS σ ∧ MoW G h3 tg mo A 0 sm σ1) ⟨_, rfl, w1.obj 0 sm (upd σ.v 3 (if σ.be + 5 < 30 then σ.be + 5 else 30))⟩ (fun h2 wz => ?_)
    obtain ⟨σ1, hσ1, w2⟩ := wz
    have hv1 : IV σ1 := by rw [hσ1]; exact IV_ofS hv
    obtain ⟨M, hM9, hM⟩ := mi_nat hv
    have hM1 : σ1.mi = nI M := by rw [hσ1]; exact hM
    have hle : M + 3 ≤ 540 := mi_sum (k := 3) hM hM9 rfl (by decide) c14
    clear hmo hlp hls hlf hP hS hF hdd
    obtain ⟨hmo, ⟨hlp, hls, hlf⟩, ⟨hP, hS, hF⟩, -, hdd⟩ := id w2
    refine aw_ald0 X dX7_offer_38 rfl ?_
    refine aw_iconst X (3) dX7_offer_39 (by decide) rfl ?_
    refine aw_iconst X (0) dX7_offer_40 (by decide) rfl ?_
    refine AW.mono (bc2 := 0 + 25 * 3) (bs2 := 0 + 100 * 3) (by omega) (by omega) ?_
    refine aw_callV X dX7_offer_41 rfl (k_X7_go X.1 htg w2 hv1 (m9 := 3) rfl hM1 hle 0 (Or.inl rfl)) cmX7_go ml_X7_199 rfl hmo rfl rfl (Nat.le_of_ble_eq_true rfl) ⟨Nat.le_of_ble_eq_true rfl, Nat.le_of_ble_eq_true rfl⟩ (fun r h9 hq hf => ?_)
    obtain ⟨rfl, w9⟩ := hq
    clear hmo hlp hls hlf hP hS hF hdd
    obtain ⟨hmo, ⟨hlp, hls, hlf⟩, ⟨hP, hS, hF⟩, -, hdd⟩ := id w9
    refine aw_pop X dX7_offer_44 rfl rfl ?_
    refine aw_ald0 X dX7_offer_45 rfl ?_
    refine aw_get X fd_X7_32 dX7_offer_46 rfl hmo rfl ?_
    exact aw_iret X hret rfl dX7_offer_49 (PoM.mk (k := 0) (σ2 := goN 0 3 σ1) (by unfold sp_offer; rw [if_neg (fun q => q c14), ← hσ1]) w9)
  · refine aw_ald0 X dX7_offer_17 rfl ?_
    refine aw_iconst X (1) dX7_offer_18 (by decide) rfl ?_
    refine aw_callV X dX7_offer_19 rfl (k_X7_refuse X.1 htg w1 1) cmX7_refuse ml_X7_93 rfl hmo rfl rfl (Nat.le_of_ble_eq_true rfl) ⟨Nat.le_of_ble_eq_true rfl, Nat.le_of_ble_eq_true rfl⟩ (fun r h2 hq hf => ?_)
    obtain ⟨rfl, hwr⟩ := hq
    exact aw_iret X hret rfl dX7_offer_22 (PoM.mk (k := 1) (σ2 := σ) (by unfold sp_offer; rw [if_pos c14]) hwr)

set_option maxHeartbeats 4000000 in
set_option maxRecDepth 100000 in
theorem k_X7_pass {l : Launch} {s0 : State} {a0 : Array Value} {G : GG} (X : CX l s0 a0 G) {h : AH} {tg mo : Nat} {A : KA} {t : Int32} {sm : Int64} {σ : NS} (htg : tg ≠ 0) (w : MoW G h tg mo A t sm σ) (hv : IV σ) (x : Int32) {m9 : Nat} (hm : (sp_pass σ x).1 = 0 → iN x ≤ m9)  : Con l s0 G yX7_pass cX7_pass 2 (some .int) 5 (25 * m9) (100 * m9) tg [.ref mo, .int x] h (PoM G tg mo (sp_pass σ x)) := by
  refine Con.of X (by decide +kernel) [some (.ref mo), some (.int x)] rfl (Nat.le_of_ble_eq_true rfl) (fun p e s m below meth c X hnm hret => ?_)
  have w0 := w
  obtain ⟨hmo, ⟨hlp, hls, hlf⟩, ⟨hP, hS, hF⟩, ⟨hn8, hn10, hn12⟩, hdd⟩ := id w
  obtain ⟨bb, hbb⟩ : ∃ bb, bb = 25 * m9 := ⟨_, rfl⟩
  obtain ⟨dd, hdd9⟩ : ∃ dd, dd = 100 * m9 := ⟨_, rfl⟩
  refine AW.mono (bc2 := bb) (bs2 := dd) (by omega) (by omega) ?_
  refine aw_ald0 X dX7_pass_0 rfl ?_
  refine aw_iconst X (0) dX7_pass_1 (by decide) rfl ?_
  refine aw_put X fd_X7_35 fw_X7_0 dX7_pass_2 rfl htg hmo rfl rfl (Nat.le_of_ble_eq_true rfl) ?_
  refine aw_genP (Pr := fun h3 => MoW G h3 tg mo A 0 sm σ) (w0.obj 0 sm σ.v) (fun h1 w1 => ?_)
  clear hmo hlp hls hlf hP hS hF hdd
  obtain ⟨hmo, ⟨hlp, hls, hlf⟩, ⟨hP, hS, hF⟩, -, hdd⟩ := id w1
  refine aw_ild1 X dX7_pass_5 rfl ?_
  refine aw_iconst X (1) dX7_pass_6 (by decide) rfl ?_
  refine aw_bipush X (99) dX7_pass_7 (by decide) rfl ?_
  refine aw_callS X dX7_pass_9 rfl (k_X7_is X.1 _ _ _) cmX7_is ml_X7_42 rfl rfl (Nat.le_of_ble_eq_true rfl) ⟨Nat.le_of_ble_eq_true rfl, Nat.le_of_ble_eq_true rfl⟩ (aw_rs ?_)
  refine aw_if_ne (n2 := 21) X dX7_pass_12 rfl rfl (fun c12 => ?_) (fun c12 => ?_)
  · refine aw_ald0 X dX7_pass_21 rfl ?_
    refine aw_get X fd_X7_86 dX7_pass_22 rfl hmo rfl ?_
    refine aw_ild1 X dX7_pass_25 rfl ?_
    refine aw_iadd X dX7_pass_26 rfl ?_
    refine aw_sipush X (540) dX7_pass_27 (by decide) rfl ?_
    refine aw_icmp_le (n2 := 39) X dX7_pass_30 rfl rfl (fun c30 => ?_) (fun c30 => ?_)
    · have h0 : (sp_pass σ x).1 = 0 := by unfold sp_pass; rw [if_neg (isY (bI_y c12)), if_neg (fun q => q c30)]
      have hm3 := hm h0
      obtain ⟨hxk, hxl⟩ := pos_in (a := 1) (n := 99) (isY (bI_y c12)) (by decide) (by decide)
      obtain ⟨M, hM9, hM⟩ := mi_nat hv
      have hle : M + iN x ≤ 540 := mi_sum hM hM9 hxk hxl c30
      refine aw_ald0 X dX7_pass_39 rfl ?_
      refine aw_ild1 X dX7_pass_40 rfl ?_
      refine aw_iconst X (0) dX7_pass_41 (by decide) rfl ?_
      refine AW.mono (bc2 := 0 + 25 * iN x) (bs2 := 0 + 100 * iN x) (by omega) (by omega) ?_
      refine aw_callV X dX7_pass_42 rfl (k_X7_go X.1 htg w1 hv (m9 := iN x) hxk hM hle 0 (Or.inl rfl)) cmX7_go ml_X7_199 rfl hmo rfl rfl (Nat.le_of_ble_eq_true rfl) ⟨Nat.le_of_ble_eq_true rfl, Nat.le_of_ble_eq_true rfl⟩ (fun r h9 hq hf => ?_)
      obtain ⟨rfl, w9⟩ := hq
      clear hmo hlp hls hlf hP hS hF hdd
      obtain ⟨hmo, ⟨hlp, hls, hlf⟩, ⟨hP, hS, hF⟩, -, hdd⟩ := id w9
      exact aw_iret X hret rfl dX7_pass_45 (PoM.mk (k := 0) (σ2 := goN 0 (iN x) σ) (by unfold sp_pass; rw [if_neg (isY (bI_y c12)), if_neg (fun q => q c30)]) w9)
    · refine aw_ald0 X dX7_pass_33 rfl ?_
      refine aw_iconst X (2) dX7_pass_34 (by decide) rfl ?_
      refine aw_callV X dX7_pass_35 rfl (k_X7_refuse X.1 htg w1 2) cmX7_refuse ml_X7_93 rfl hmo rfl rfl (Nat.le_of_ble_eq_true rfl) ⟨Nat.le_of_ble_eq_true rfl, Nat.le_of_ble_eq_true rfl⟩ (fun r h2 hq hf => ?_)
      obtain ⟨rfl, hwr⟩ := hq
      exact aw_iret X hret rfl dX7_pass_38 (PoM.mk (k := 2) (σ2 := σ) (by unfold sp_pass; rw [if_neg (isY (bI_y c12)), if_pos c30]) hwr)
  · refine aw_ald0 X dX7_pass_15 rfl ?_
    refine aw_iconst X (1) dX7_pass_16 (by decide) rfl ?_
    refine aw_callV X dX7_pass_17 rfl (k_X7_refuse X.1 htg w1 1) cmX7_refuse ml_X7_93 rfl hmo rfl rfl (Nat.le_of_ble_eq_true rfl) ⟨Nat.le_of_ble_eq_true rfl, Nat.le_of_ble_eq_true rfl⟩ (fun r h2 hq hf => ?_)
    obtain ⟨rfl, hwr⟩ := hq
    exact aw_iret X hret rfl dX7_pass_20 (PoM.mk (k := 1) (σ2 := σ) (by unfold sp_pass; rw [if_pos (isN (bI_n c12))]) hwr)

set_option maxHeartbeats 4000000 in
set_option maxRecDepth 100000 in
theorem k_X7_speak {l : Launch} {s0 : State} {a0 : Array Value} {G : GG} (X : CX l s0 a0 G) {h : AH} {tg mo : Nat} {A : KA} {t : Int32} {sm : Int64} {σ : NS} (htg : tg ≠ 0) (w : MoW G h tg mo A t sm σ) (hv : IV σ) (x y z u : Int32) {m9 : Nat} (hm : (sp_speak σ x y z u).1 = 0 → iN z ≤ m9)  : Con l s0 G yX7_speak cX7_speak 6 (some .int) 5 (25 * m9 + 1) (100 * m9 + 4) tg [.ref mo, .int x, .int y, .int z, .int u] h (PoM G tg mo (sp_speak σ x y z u)) := by
  refine Con.of X (by decide +kernel) [some (.ref mo), some (.int x), some (.int y), some (.int z), some (.int u), none] rfl (Nat.le_of_ble_eq_true rfl) (fun p e s m below meth c X hnm hret => ?_)
  have w0 := w
  obtain ⟨hmo, ⟨hlp, hls, hlf⟩, ⟨hP, hS, hF⟩, ⟨hn8, hn10, hn12⟩, hdd⟩ := id w
  obtain ⟨bb, hbb⟩ : ∃ bb, bb = 25 * m9 + 1 := ⟨_, rfl⟩
  obtain ⟨dd, hdd9⟩ : ∃ dd, dd = 100 * m9 + 4 := ⟨_, rfl⟩
  refine AW.mono (bc2 := bb) (bs2 := dd) (by omega) (by omega) ?_
  refine aw_ald0 X dX7_speak_0 rfl ?_
  refine aw_iconst X (0) dX7_speak_1 (by decide) rfl ?_
  refine aw_put X fd_X7_35 fw_X7_0 dX7_speak_2 rfl htg hmo rfl rfl (Nat.le_of_ble_eq_true rfl) ?_
  refine aw_genP (Pr := fun h3 => MoW G h3 tg mo A 0 sm σ) (w0.obj 0 sm σ.v) (fun h1 w1 => ?_)
  clear hmo hlp hls hlf hP hS hF hdd
  obtain ⟨hmo, ⟨hlp, hls, hlf⟩, ⟨hP, hS, hF⟩, -, hdd⟩ := id w1
  refine aw_ald0 X dX7_speak_5 rfl ?_
  refine aw_ild1 X dX7_speak_6 rfl ?_
  refine aw_callV X dX7_speak_7 rfl (k_X7_isPerson X.1 w1 _) cmX7_isPerson ml_X7_101 rfl hmo rfl rfl (Nat.le_of_ble_eq_true rfl) ⟨Nat.le_of_ble_eq_true rfl, Nat.le_of_ble_eq_true rfl⟩ (aw_rs ?_)
  refine aw_if_eq (n2 := 21) X dX7_speak_10 rfl rfl (fun c10 => ?_) (fun c10 => ?_)
  · refine aw_ald0 X dX7_speak_21 rfl ?_
    refine aw_iconst X (1) dX7_speak_22 (by decide) rfl ?_
    refine aw_callV X dX7_speak_23 rfl (k_X7_refuse X.1 htg w1 1) cmX7_refuse ml_X7_93 rfl hmo rfl rfl (Nat.le_of_ble_eq_true rfl) ⟨Nat.le_of_ble_eq_true rfl, Nat.le_of_ble_eq_true rfl⟩ (fun r h2 hq hf => ?_)
    obtain ⟨rfl, hwr⟩ := hq
    exact aw_iret X hret rfl dX7_speak_26 (PoM.mk (k := 1) (σ2 := σ) (by unfold sp_speak; rw [if_pos (Or.inl (bI_n c10))]) hwr)
  · refine aw_ald0 X dX7_speak_13 rfl ?_
    refine aw_ild2 X dX7_speak_14 rfl ?_
    refine aw_callV X dX7_speak_15 rfl (k_X7_isPerson X.1 w1 _) cmX7_isPerson ml_X7_101 rfl hmo rfl rfl (Nat.le_of_ble_eq_true rfl) ⟨Nat.le_of_ble_eq_true rfl, Nat.le_of_ble_eq_true rfl⟩ (aw_rs ?_)
    refine aw_if_ne (n2 := 27) X dX7_speak_18 rfl rfl (fun c18 => ?_) (fun c18 => ?_)
    · refine aw_ild1 X dX7_speak_27 rfl ?_
      refine aw_ild2 X dX7_speak_28 rfl ?_
      refine aw_icmp_eq (n2 := 52) X dX7_speak_29 rfl rfl (fun c29 => ?_) (fun c29 => ?_)
      · refine aw_ald0 X dX7_speak_52 rfl ?_
        refine aw_iconst X (2) dX7_speak_53 (by decide) rfl ?_
        refine aw_callV X dX7_speak_54 rfl (k_X7_refuse X.1 htg w1 2) cmX7_refuse ml_X7_93 rfl hmo rfl rfl (Nat.le_of_ble_eq_true rfl) ⟨Nat.le_of_ble_eq_true rfl, Nat.le_of_ble_eq_true rfl⟩ (fun r h2 hq hf => ?_)
        obtain ⟨rfl, hwr⟩ := hq
        exact aw_iret X hret rfl dX7_speak_57 (PoM.mk (k := 2) (σ2 := σ) (by unfold sp_speak; rw [if_neg (fun q => q.elim (fun z9 => z9 (bI_y c10)) (fun z9 => z9 (bI_y c18))), if_pos (Or.inl c29)]) hwr)
      · refine aw_ild3 X dX7_speak_32 rfl ?_
        refine aw_iconst X (1) dX7_speak_33 (by decide) rfl ?_
        refine aw_bipush X (9) dX7_speak_34 (by decide) rfl ?_
        refine aw_callS X dX7_speak_36 rfl (k_X7_is X.1 _ _ _) cmX7_is ml_X7_42 rfl rfl (Nat.le_of_ble_eq_true rfl) ⟨Nat.le_of_ble_eq_true rfl, Nat.le_of_ble_eq_true rfl⟩ (aw_rs ?_)
        refine aw_if_eq (n2 := 52) X dX7_speak_39 rfl rfl (fun c39 => ?_) (fun c39 => ?_)
        · refine aw_ald0 X dX7_speak_52 rfl ?_
          refine aw_iconst X (2) dX7_speak_53 (by decide) rfl ?_
          refine aw_callV X dX7_speak_54 rfl (k_X7_refuse X.1 htg w1 2) cmX7_refuse ml_X7_93 rfl hmo rfl rfl (Nat.le_of_ble_eq_true rfl) ⟨Nat.le_of_ble_eq_true rfl, Nat.le_of_ble_eq_true rfl⟩ (fun r h2 hq hf => ?_)
          obtain ⟨rfl, hwr⟩ := hq
          exact aw_iret X hret rfl dX7_speak_57 (PoM.mk (k := 2) (σ2 := σ) (by unfold sp_speak; rw [if_neg (fun q => q.elim (fun z9 => z9 (bI_y c10)) (fun z9 => z9 (bI_y c18))), if_pos (Or.inr (Or.inl (isN (bI_n c39))))]) hwr)
        · refine aw_ild4 X dX7_speak_42 rfl ?_
          refine aw_iconst X (-1) dX7_speak_44 (by decide) rfl ?_
          refine aw_iconst X (1) dX7_speak_45 (by decide) rfl ?_
          refine aw_callS X dX7_speak_46 rfl (k_X7_is X.1 _ _ _) cmX7_is ml_X7_42 rfl rfl (Nat.le_of_ble_eq_true rfl) ⟨Nat.le_of_ble_eq_true rfl, Nat.le_of_ble_eq_true rfl⟩ (aw_rs ?_)
          refine aw_if_ne (n2 := 58) X dX7_speak_49 rfl rfl (fun c49 => ?_) (fun c49 => ?_)
          · obtain ⟨hxk, hxl⟩ := cat_in (bI_y c10) (show σ.np < 2 ^ 31 by omega)
            obtain ⟨hyk, hyl⟩ := cat_in (bI_y c18) (show σ.np < 2 ^ 31 by omega)
            obtain ⟨hzk, hzl⟩ := pos_in (a := 1) (n := 9) (isY (bI_y c39)) (by decide) (by decide)
            refine aw_ald0 X dX7_speak_58 rfl ?_
            obtain ⟨b1, rfl⟩ : ∃ b1, bb = b1 + 1 := ⟨bb - 1, by omega⟩
            obtain ⟨d1, rfl⟩ : ∃ d1, dd = d1 + 4 := ⟨dd - 4, by omega⟩
            refine aw_callV X dX7_speak_59 rfl (k_X7_people X.1 htg w1) cmX7_people ml_X7_188 rfl hmo rfl rfl (Nat.le_of_ble_eq_true rfl) ⟨Nat.le_of_ble_eq_true rfl, Nat.le_of_ble_eq_true rfl⟩ (fun r h2 hq hf => ?_)
            obtain ⟨rfl, hxA⟩ := hq
            have w2 := w1.ext hxA
            clear hmo hlp hls hlf hP hS hF hdd
            obtain ⟨hmo, ⟨hlp, hls, hlf⟩, ⟨hP, hS, hF⟩, -, hdd⟩ := id w2
            refine aw_ild1 X dX7_speak_62 rfl ?_
            refine aw_ishr X dX7_speak_63 rfl ?_
            refine aw_iconst X (1) dX7_speak_64 (by decide) rfl ?_
            refine aw_iand X dX7_speak_65 rfl ?_
            refine aw_if_eq (n2 := 90) X dX7_speak_66 rfl rfl (fun c66 => ?_) (fun c66 => ?_)
            · have hbit : ¬ holdsP (setF σ.F σ.nf) x := fun q => by
                rw [hxk] at c66 q
                exact (bt_0 (by omega)).mp c66 ((holds_bt (by omega)).mp q)
              refine aw_ald0 X dX7_speak_90 rfl ?_
              refine aw_iconst X (3) dX7_speak_91 (by decide) rfl ?_
              refine aw_callV X dX7_speak_92 rfl (k_X7_refuse X.1 htg w2 3) cmX7_refuse ml_X7_93 rfl w2.1 rfl rfl (Nat.le_of_ble_eq_true rfl) ⟨Nat.le_of_ble_eq_true rfl, Nat.le_of_ble_eq_true rfl⟩ (fun r h2 hq hf => ?_)
              obtain ⟨rfl, hwr⟩ := hq
              exact aw_iret X hret rfl dX7_speak_95 (PoM.mk (k := 3) (σ2 := σ) (by unfold sp_speak; rw [if_neg (fun q => q.elim (fun z9 => z9 (bI_y c10)) (fun z9 => z9 (bI_y c18))), if_neg (fun q => q.elim c29 (fun q => q.elim (isY (bI_y c39)) (isY (bI_y c49)))), if_pos (Or.inl hbit)]) hwr)
            · have hbit : holdsP (setF σ.F σ.nf) x := by
                rw [hxk] at c66 ⊢
                exact (holds_bt (by omega)).mpr (Decidable.of_not_not (fun q => c66 ((bt_0 (by omega)).mpr q)))
              refine aw_ald0 X dX7_speak_69 rfl ?_
              refine aw_get X fd_X7_185 dX7_speak_70 rfl hmo rfl ?_
              refine aw_bipush X (80) dX7_speak_73 (by decide) rfl ?_
              refine aw_icmp_ge (n2 := 90) X dX7_speak_75 rfl rfl (fun c75 => ?_) (fun c75 => ?_)
              · refine aw_ald0 X dX7_speak_90 rfl ?_
                refine aw_iconst X (3) dX7_speak_91 (by decide) rfl ?_
                refine aw_callV X dX7_speak_92 rfl (k_X7_refuse X.1 htg w2 3) cmX7_refuse ml_X7_93 rfl w2.1 rfl rfl (Nat.le_of_ble_eq_true rfl) ⟨Nat.le_of_ble_eq_true rfl, Nat.le_of_ble_eq_true rfl⟩ (fun r h2 hq hf => ?_)
                obtain ⟨rfl, hwr⟩ := hq
                exact aw_iret X hret rfl dX7_speak_95 (PoM.mk (k := 3) (σ2 := σ) (by unfold sp_speak; rw [if_neg (fun q => q.elim (fun z9 => z9 (bI_y c10)) (fun z9 => z9 (bI_y c18))), if_neg (fun q => q.elim c29 (fun q => q.elim (isY (bI_y c39)) (isY (bI_y c49)))), if_pos (Or.inr (Or.inl c75))]) hwr)
              · replace c75 := Int32.not_le.mp c75
                refine aw_ald0 X dX7_speak_78 rfl ?_
                refine aw_get X fd_X7_86 dX7_speak_79 rfl hmo rfl ?_
                refine aw_ild3 X dX7_speak_82 rfl ?_
                refine aw_iadd X dX7_speak_83 rfl ?_
                refine aw_sipush X (540) dX7_speak_84 (by decide) rfl ?_
                refine aw_icmp_le (n2 := 96) X dX7_speak_87 rfl rfl (fun c87 => ?_) (fun c87 => ?_)
                · have h0 : (sp_speak σ x y z u).1 = 0 := by unfold sp_speak; rw [if_neg (fun q => q.elim (fun z9 => z9 (bI_y c10)) (fun z9 => z9 (bI_y c18))), if_neg (fun q => q.elim c29 (fun q => q.elim (isY (bI_y c39)) (isY (bI_y c49)))), if_neg (fun q => q.elim (fun z9 => z9 hbit) (fun q => q.elim (Int32.not_le.mpr c75) (fun z9 => z9 c87)))]
                  have hm3 := hm h0
                  obtain ⟨M, hM9, hM⟩ := mi_nat hv
                  have hle : M + iN z ≤ 540 := mi_sum hM hM9 hzk hzl c87
                  refine aw_ald0 X dX7_speak_96 rfl ?_
                  refine aw_get X fd_X7_10 dX7_speak_97 rfl hmo rfl ?_
                  refine aw_ild1 X dX7_speak_100 rfl ?_
                  refine aw_callV X dX7_speak_101 rfl (k_lget X.1 hlp hxk hxl (hP _ hxl).1) cmJx4a65c_get_915e3 ml_X7_48 rfl hlp.1 rfl rfl (Nat.le_of_ble_eq_true rfl) ⟨Nat.le_of_ble_eq_true rfl, Nat.le_of_ble_eq_true rfl⟩ (aw_rs ?_)
                  refine aw_castA X dX7_speak_104 rfl (kd := 0) (by decide) cc_X7_52 (hP _ hxl).2 ?_
                  refine aw_ast5 X dX7_speak_107 rfl (by decide) rfl ?_
                  refine aw_ald0 X dX7_speak_109 rfl ?_
                  refine aw_bipush X (100) dX7_speak_110 (by decide) rfl ?_
                  refine aw_ald0 X dX7_speak_112 rfl ?_
                  refine aw_get X fd_X7_185 dX7_speak_113 rfl hmo rfl ?_
                  refine aw_ild3 X dX7_speak_116 rfl ?_
                  refine aw_ald5 X dX7_speak_117 rfl ?_
                  refine aw_iconst X (2) dX7_speak_119 (by decide) rfl ?_
                  refine aw_iald X (2) dX7_speak_120 rfl (hP _ hxl).2 rfl (by decide) (by decide) ?_
                  refine aw_ald0 X dX7_speak_121 rfl ?_
                  refine aw_get X fd_X7_29 dX7_speak_122 rfl hmo rfl ?_
                  refine aw_isub X dX7_speak_125 rfl ?_
                  refine aw_mabs X dX7_speak_126 rfl ⟨ml_X7_141, mm_abs⟩ (Nat.le_of_ble_eq_true rfl) (Nat.le_of_ble_eq_true rfl) ?_
                  refine aw_imul X dX7_speak_129 rfl ?_
                  refine aw_iconst X (3) dX7_speak_130 (by decide) rfl ?_
                  refine aw_idiv X dX7_speak_131 (by decide) rfl ?_
                  refine aw_iadd X dX7_speak_132 rfl ?_
                  refine aw_iconst X (1) dX7_speak_133 (by decide) rfl ?_
                  refine aw_iadd X dX7_speak_134 rfl ?_
                  refine aw_mmin X dX7_speak_135 rfl ⟨ml_X7_62, mm_min⟩ (Nat.le_of_ble_eq_true rfl) (Nat.le_of_ble_eq_true rfl) ?_
                  rw [ti_e (z * (if 0 ≤ σ.P (iN x) 2 - σ.lp then σ.P (iN x) 2 - σ.lp else 0 - (σ.P (iN x) 2 - σ.lp))), show 1 + z * (if 0 ≤ σ.P (iN x) 2 - σ.lp then σ.P (iN x) 2 - σ.lp else 0 - (σ.P (iN x) 2 - σ.lp)) / 3 = spE σ x z from rfl]
                  refine aw_put X fd_X7_185 fw_X7_11 dX7_speak_138 rfl htg hmo rfl rfl (Nat.le_of_ble_eq_true rfl) ?_
                  refine aw_genP (Pr := fun h3 => ∃ σz, σz = σ.up 1 (if σ.ti + spE σ x z < 100 then σ.ti + spE σ x z else 100) ∧ MoW G h3 tg mo A 0 sm σz) ⟨_, rfl, w2.obj 0 sm (upd σ.v 1 (if σ.ti + spE σ x z < 100 then σ.ti + spE σ x z else 100))⟩ (fun h3 wz => ?_)
                  obtain ⟨σ3, hσ3, w3⟩ := wz
                  clear hmo hlp hls hlf hP hS hF hdd
                  obtain ⟨hmo, ⟨hlp, hls, hlf⟩, ⟨hP, hS, hF⟩, -, hdd⟩ := id w3
                  have en3 : σ3.np = σ.np := by rw [hσ3]; rfl
                  have eP3 : σ3.P = σ.P := by rw [hσ3]; rfl
                  have es3 : σ3.sl = σ.sl := by rw [hσ3]; rfl
                  refine aw_ald0 X dX7_speak_141 rfl ?_
                  refine aw_ald5 X dX7_speak_142 rfl ?_
                  refine aw_iconst X (2) dX7_speak_144 (by decide) rfl ?_
                  refine aw_iald X (2) dX7_speak_145 rfl (hP _ (by rw [en3]; exact hxl)).2 rfl (by decide) (by decide) ?_
                  refine aw_put X fd_X7_29 fw_X7_12 dX7_speak_146 rfl htg hmo rfl rfl (Nat.le_of_ble_eq_true rfl) ?_
                  refine aw_genP (Pr := fun h3 => ∃ σz, σz = σ3.up 2 (σ3.P (iN x) 2) ∧ MoW G h3 tg mo A 0 sm σz) ⟨_, rfl, w3.obj 0 sm (upd σ3.v 2 (σ3.P (iN x) 2))⟩ (fun h4 wz => ?_)
                  obtain ⟨σ4, hσ4, w4⟩ := wz
                  clear hmo hlp hls hlf hP hS hF hdd
                  obtain ⟨hmo, ⟨hlp, hls, hlf⟩, ⟨hP, hS, hF⟩, -, hdd⟩ := id w4
                  have en4 : σ4.np = σ.np := by rw [hσ4]; exact en3
                  have eP4 : σ4.P = σ.P := by rw [hσ4]; exact eP3
                  have es4 : σ4.sl = σ.sl := by rw [hσ4]; exact es3
                  have hM4 : σ4 = spM σ x z := by rw [hσ4, eP3, hσ3]; rfl
                  have hx4 : iN x < σ4.np := by rw [en4]; exact hxl
                  have hy4 : iN y < σ4.np := by rw [en4]; exact hyl
                  have hsg := sgn_lvl (hv.2.1 _ hxl).2.1 (hv.2.1 _ hyl).2.1
                  refine aw_ald0 X dX7_speak_149 rfl ?_
                  refine aw_dup X dX7_speak_150 rfl rfl ?_
                  refine aw_get X fd_X7_191 dX7_speak_151 rfl hmo rfl ?_
                  refine aw_ild4 X dX7_speak_154 rfl ?_
                  refine aw_ald0 X dX7_speak_156 rfl ?_
                  refine aw_get X fd_X7_10 dX7_speak_157 rfl hmo rfl ?_
                  refine aw_ild2 X dX7_speak_160 rfl ?_
                  refine aw_callV X dX7_speak_161 rfl (k_lget X.1 hlp hyk hy4 (hP _ hy4).1) cmJx4a65c_get_915e3 ml_X7_48 rfl hlp.1 rfl rfl (Nat.le_of_ble_eq_true rfl) ⟨Nat.le_of_ble_eq_true rfl, Nat.le_of_ble_eq_true rfl⟩ (aw_rs ?_)
                  refine aw_castA X dX7_speak_164 rfl (kd := 0) (by decide) cc_X7_52 (hP _ hy4).2 ?_
                  refine aw_iconst X (1) dX7_speak_167 (by decide) rfl ?_
                  refine aw_iald X (1) dX7_speak_168 rfl (hP _ hy4).2 rfl (by decide) (by decide) ?_
                  refine aw_ald5 X dX7_speak_169 rfl ?_
                  refine aw_iconst X (1) dX7_speak_171 (by decide) rfl ?_
                  refine aw_iald X (1) dX7_speak_172 rfl (hP _ hx4).2 rfl (by decide) (by decide) ?_
                  refine aw_isub X dX7_speak_173 rfl ?_
                  refine aw_callS X dX7_speak_174 rfl (k_signum X.1 _) cmJ6_signum_0f7a4 ml_X7_194 rfl rfl (Nat.le_of_ble_eq_true rfl) ⟨Nat.le_of_ble_eq_true rfl, Nat.le_of_ble_eq_true rfl⟩ (aw_rs ?_)
                  refine aw_icmp_ne (n2 := 184) X dX7_speak_177 rfl rfl (fun c177 => ?_) (fun c177 => ?_)
                  · refine aw_iconst X (1) dX7_speak_184 (by decide) rfl ?_
                    refine aw_iadd X dX7_speak_185 rfl ?_
                    refine aw_put X fd_X7_191 fw_X7_15 dX7_speak_186 rfl htg hmo rfl rfl (Nat.le_of_ble_eq_true rfl) ?_
                    refine aw_genP (Pr := fun h3 => ∃ σz, σz = spL σ x y z u ∧ MoW G h3 tg mo A 0 sm σz) ⟨_, rfl, by
                      rw [show spL σ x y z u = σ4.up 5 (σ4.sl + 1) from by
                        unfold spL
                        rw [if_neg (fun q => c177 (by rw [eP4, hsg]; exact q)), hM4, ← es4, hM4]]
                      exact w4.obj 0 sm (upd σ4.v 5 (σ4.sl + 1))⟩ (fun h6 wz => ?_)
                    obtain ⟨σ6, hσ6, w6⟩ := wz
                    have hv6 : IV σ6 := by rw [hσ6]; exact IV_spL hv hxl (nout (isY (bI_y c39)))
                    have hM6 : σ6.mi = nI M := by rw [hσ6, spL_mi]; exact hM
                    clear hmo hlp hls hlf hP hS hF hdd
                    obtain ⟨hmo, ⟨hlp, hls, hlf⟩, ⟨hP, hS, hF⟩, -, hdd⟩ := id w6
                    refine aw_ald0 X dX7_speak_189 rfl ?_
                    refine aw_ild3 X dX7_speak_190 rfl ?_
                    refine aw_iconst X (1) dX7_speak_191 (by decide) rfl ?_
                    refine AW.mono (bc2 := 0 + 25 * iN z) (bs2 := 0 + 100 * iN z) (by omega) (by omega) ?_
                    refine aw_callV X dX7_speak_192 rfl (k_X7_go X.1 htg w6 hv6 (m9 := iN z) hzk hM6 hle 1 (Or.inr rfl)) cmX7_go ml_X7_199 rfl hmo rfl rfl (Nat.le_of_ble_eq_true rfl) ⟨Nat.le_of_ble_eq_true rfl, Nat.le_of_ble_eq_true rfl⟩ (fun r h9 hq hf => ?_)
                    obtain ⟨rfl, w9⟩ := hq
                    clear hmo hlp hls hlf hP hS hF hdd
                    obtain ⟨hmo, ⟨hlp, hls, hlf⟩, ⟨hP, hS, hF⟩, -, hdd⟩ := id w9
                    refine aw_pop X dX7_speak_195 rfl rfl ?_
                    refine aw_ald0 X dX7_speak_196 rfl ?_
                    refine aw_get X fd_X7_185 dX7_speak_197 rfl hmo rfl ?_
                    exact aw_iret X hret rfl dX7_speak_200 (PoM.mk (k := 0) (σ2 := goN 1 (iN z) σ6) (by unfold sp_speak; rw [if_neg (fun q => q.elim (fun z9 => z9 (bI_y c10)) (fun z9 => z9 (bI_y c18))), if_neg (fun q => q.elim c29 (fun q => q.elim (isY (bI_y c39)) (isY (bI_y c49)))), if_neg (fun q => q.elim (fun z9 => z9 hbit) (fun q => q.elim (Int32.not_le.mpr c75) (fun z9 => z9 c87))), ← hσ6]) w9)
                  · refine aw_iconst X (0) dX7_speak_180 (by decide) rfl ?_
                    refine aw_goto (n := 185) X dX7_speak_181 rfl ?_
                    refine aw_iadd X dX7_speak_185 rfl ?_
                    refine aw_put X fd_X7_191 fw_X7_15 dX7_speak_186 rfl htg hmo rfl rfl (Nat.le_of_ble_eq_true rfl) ?_
                    refine aw_genP (Pr := fun h3 => ∃ σz, σz = spL σ x y z u ∧ MoW G h3 tg mo A 0 sm σz) ⟨_, rfl, by
                      rw [show spL σ x y z u = σ4.up 5 (σ4.sl + 0) from by
                        unfold spL
                        rw [if_pos (by rw [eP4, hsg] at c177; exact c177), ← hM4, Int32.add_zero]
                        show σ4 = σ4.wV (upd σ4.v 5 (σ4.v 5))
                        rw [upd_id (r := σ4.v) (k := 5) (x := σ4.v 5) rfl]
                        rfl]
                      exact w4.obj 0 sm (upd σ4.v 5 (σ4.sl + 0))⟩ (fun h6 wz => ?_)
                    obtain ⟨σ6, hσ6, w6⟩ := wz
                    have hv6 : IV σ6 := by rw [hσ6]; exact IV_spL hv hxl (nout (isY (bI_y c39)))
                    have hM6 : σ6.mi = nI M := by rw [hσ6, spL_mi]; exact hM
                    clear hmo hlp hls hlf hP hS hF hdd
                    obtain ⟨hmo, ⟨hlp, hls, hlf⟩, ⟨hP, hS, hF⟩, -, hdd⟩ := id w6
                    refine aw_ald0 X dX7_speak_189 rfl ?_
                    refine aw_ild3 X dX7_speak_190 rfl ?_
                    refine aw_iconst X (1) dX7_speak_191 (by decide) rfl ?_
                    refine AW.mono (bc2 := 0 + 25 * iN z) (bs2 := 0 + 100 * iN z) (by omega) (by omega) ?_
                    refine aw_callV X dX7_speak_192 rfl (k_X7_go X.1 htg w6 hv6 (m9 := iN z) hzk hM6 hle 1 (Or.inr rfl)) cmX7_go ml_X7_199 rfl hmo rfl rfl (Nat.le_of_ble_eq_true rfl) ⟨Nat.le_of_ble_eq_true rfl, Nat.le_of_ble_eq_true rfl⟩ (fun r h9 hq hf => ?_)
                    obtain ⟨rfl, w9⟩ := hq
                    clear hmo hlp hls hlf hP hS hF hdd
                    obtain ⟨hmo, ⟨hlp, hls, hlf⟩, ⟨hP, hS, hF⟩, -, hdd⟩ := id w9
                    refine aw_pop X dX7_speak_195 rfl rfl ?_
                    refine aw_ald0 X dX7_speak_196 rfl ?_
                    refine aw_get X fd_X7_185 dX7_speak_197 rfl hmo rfl ?_
                    exact aw_iret X hret rfl dX7_speak_200 (PoM.mk (k := 0) (σ2 := goN 1 (iN z) σ6) (by unfold sp_speak; rw [if_neg (fun q => q.elim (fun z9 => z9 (bI_y c10)) (fun z9 => z9 (bI_y c18))), if_neg (fun q => q.elim c29 (fun q => q.elim (isY (bI_y c39)) (isY (bI_y c49)))), if_neg (fun q => q.elim (fun z9 => z9 hbit) (fun q => q.elim (Int32.not_le.mpr c75) (fun z9 => z9 c87))), ← hσ6]) w9)
                · refine aw_ald0 X dX7_speak_90 rfl ?_
                  refine aw_iconst X (3) dX7_speak_91 (by decide) rfl ?_
                  refine aw_callV X dX7_speak_92 rfl (k_X7_refuse X.1 htg w2 3) cmX7_refuse ml_X7_93 rfl w2.1 rfl rfl (Nat.le_of_ble_eq_true rfl) ⟨Nat.le_of_ble_eq_true rfl, Nat.le_of_ble_eq_true rfl⟩ (fun r h2 hq hf => ?_)
                  obtain ⟨rfl, hwr⟩ := hq
                  exact aw_iret X hret rfl dX7_speak_95 (PoM.mk (k := 3) (σ2 := σ) (by unfold sp_speak; rw [if_neg (fun q => q.elim (fun z9 => z9 (bI_y c10)) (fun z9 => z9 (bI_y c18))), if_neg (fun q => q.elim c29 (fun q => q.elim (isY (bI_y c39)) (isY (bI_y c49)))), if_pos (Or.inr (Or.inr c87))]) hwr)
          · refine aw_ald0 X dX7_speak_52 rfl ?_
            refine aw_iconst X (2) dX7_speak_53 (by decide) rfl ?_
            refine aw_callV X dX7_speak_54 rfl (k_X7_refuse X.1 htg w1 2) cmX7_refuse ml_X7_93 rfl hmo rfl rfl (Nat.le_of_ble_eq_true rfl) ⟨Nat.le_of_ble_eq_true rfl, Nat.le_of_ble_eq_true rfl⟩ (fun r h2 hq hf => ?_)
            obtain ⟨rfl, hwr⟩ := hq
            exact aw_iret X hret rfl dX7_speak_57 (PoM.mk (k := 2) (σ2 := σ) (by unfold sp_speak; rw [if_neg (fun q => q.elim (fun z9 => z9 (bI_y c10)) (fun z9 => z9 (bI_y c18))), if_pos (Or.inr (Or.inr (isN (bI_n c49))))]) hwr)
    · refine aw_ald0 X dX7_speak_21 rfl ?_
      refine aw_iconst X (1) dX7_speak_22 (by decide) rfl ?_
      refine aw_callV X dX7_speak_23 rfl (k_X7_refuse X.1 htg w1 1) cmX7_refuse ml_X7_93 rfl hmo rfl rfl (Nat.le_of_ble_eq_true rfl) ⟨Nat.le_of_ble_eq_true rfl, Nat.le_of_ble_eq_true rfl⟩ (fun r h2 hq hf => ?_)
      obtain ⟨rfl, hwr⟩ := hq
      exact aw_iret X hret rfl dX7_speak_26 (PoM.mk (k := 1) (σ2 := σ) (by unfold sp_speak; rw [if_pos (Or.inr (bI_n c18))]) hwr)
