/-! THE MODEL'S CALLS: the same answers -/
def PoM (G : GG) (tg mo : Nat) (R : Rs) : Option Value → AH → Prop := fun r h2 => some (.int R.2.1) = r ∧ ∃ A2 sm2, MoW G h2 tg mo A2 (nI R.1) sm2 R.2.2
theorem PoM.mk {G : GG} {h2 : AH} {tg mo : Nat} {A2 : KA} {sm2 : Int64} {R : Rs} {k : Nat} {v : Int32} {σ2 : NS} (hR : R = (k, v, σ2)) (w : MoW G h2 tg mo A2 (nI k) sm2 σ2) : PoM G tg mo R (some (.int v)) h2 := by
  subst hR
  exact ⟨rfl, A2, sm2, w⟩
theorem isN {v a b : Int32} (h : ¬ (a ≤ v ∧ v ≤ b)) : out v a b := by
  by_cases c : v < a
  · exact Or.inl c
  · exact Or.inr (Int32.not_le.mp (fun q => h ⟨Int32.not_lt.mp c, q⟩))
theorem isY {v a b : Int32} (h : a ≤ v ∧ v ≤ b) : ¬ out v a b := fun q => q.elim (fun z => Int32.not_le.mpr z h.1) (fun z => Int32.not_le.mpr z h.2)
theorem IV.fig {σ : NS} (hv : IV σ) {k : Nat} (hk : k < σ.nf) : (2 ≤ σ.F k 3) ↔ (σ.F k 3 = 2 ∨ σ.F k 3 = 3) := by
  have h := (hv.2.2.2.1 k hk).2.2.2
  rcases h with h | h | h
  · rw [h.1]; decide
  · rw [h.1]; decide
  · rcases h.1 with e | e <;> rw [e] <;> decide
theorem IV.gap {σ : NS} (hv : IV σ) {x : Int32} (h0 : 0 ≤ x) (h1 : x ≤ 15) : 0 < σ.di - x ∧ ¬ σ.di - x = 0 := by
  have hd := hv.2.2.2.2.1
  have e1 := nI_iN (x := σ.di) (n := 81) (Int32.le_trans (by decide) hd.1) (Int32.lt_of_le_of_lt hd.2 (by decide)) (by decide)
  have e2 := nI_iN (x := x) (n := 16) h0 (Int32.lt_of_le_of_lt h1 (by decide)) (by decide)
  have e3 : 20 ≤ iN σ.di := Nat.le_of_not_lt (fun q => by
    have := hd.1
    rw [e1.1] at this
    exact absurd (nI_lt (b := 20) q (by decide)) (Int32.not_lt.mpr this))
  rw [e1.1, e2.1, pk_sub (by omega)]
  have h9 : 0 < nI (iN σ.di - iN x) := nI_lt (a := 0) (by omega) (by omega)
  exact ⟨h9, fun q => by rw [q] at h9; exact absurd h9 (by decide)⟩

set_option maxHeartbeats 4000000 in
set_option maxRecDepth 100000 in
theorem k_X7_lamp {l : Launch} {s0 : State} {a0 : Array Value} {G : GG} (X : CX l s0 a0 G) {h : AH} {tg mo : Nat} {A : KA} {t : Int32} {sm : Int64} {σ : NS} (htg : tg ≠ 0) (w : MoW G h tg mo A t sm σ) (x : Int32) (y : Int32)  : Con l s0 G yX7_lamp cX7_lamp 4 (some .int) 1 0 0 tg [.ref mo, .int x, .int y] h (PoM G tg mo (sp_lamp σ x y)) := by
  refine Con.of X (by decide +kernel) [some (.ref mo), some (.int x), some (.int y), none] rfl (Nat.le_of_ble_eq_true rfl) (fun p e s m below meth c X hnm hret => ?_)
  have w0 := w
  obtain ⟨hmo, ⟨hlp, hls, hlf⟩, ⟨hP, hS, hF⟩, ⟨hn8, hn10, hn12⟩, hdd⟩ := id w
  refine aw_ald0 X dX7_lamp_0 rfl ?_
  refine aw_iconst X (0) dX7_lamp_1 (by decide) rfl ?_
  refine aw_put X fd_X7_35 fw_X7_0 dX7_lamp_2 rfl htg hmo rfl rfl (Nat.le_of_ble_eq_true rfl) ?_
  refine aw_genP (Pr := fun h3 => MoW G h3 tg mo A 0 sm σ) (w0.obj 0 sm σ.v) (fun h1 w1 => ?_)
  clear hmo hlp hls hlf hP hS hF hdd
  obtain ⟨hmo, ⟨hlp, hls, hlf⟩, ⟨hP, hS, hF⟩, -, hdd⟩ := id w1
  refine aw_ild1 X dX7_lamp_5 rfl ?_
  refine aw_bipush X (20) dX7_lamp_6 (by decide) rfl ?_
  refine aw_bipush X (80) dX7_lamp_8 (by decide) rfl ?_
  refine aw_callS X dX7_lamp_10 rfl (k_X7_is X.1 _ _ _) cmX7_is ml_X7_42 rfl rfl (Nat.le_of_ble_eq_true rfl) ⟨Nat.le_of_ble_eq_true rfl, Nat.le_of_ble_eq_true rfl⟩ (aw_rs ?_)
  refine aw_if_eq (n2 := 26) X dX7_lamp_13 rfl rfl (fun c13 => ?_) (fun c13 => ?_)
  · refine aw_ald0 X dX7_lamp_26 rfl ?_
    refine aw_iconst X (1) dX7_lamp_27 (by decide) rfl ?_
    refine aw_callV X dX7_lamp_28 rfl (k_X7_refuse X.1 htg w1 1) cmX7_refuse ml_X7_93 rfl hmo rfl rfl (Nat.le_of_ble_eq_true rfl) ⟨Nat.le_of_ble_eq_true rfl, Nat.le_of_ble_eq_true rfl⟩ (fun r h2 hq hf => ?_)
    obtain ⟨rfl, hwr⟩ := hq
    exact aw_iret X hret rfl dX7_lamp_31 (PoM.mk (k := 1) (σ2 := σ) (by unfold sp_lamp; rw [if_pos (Or.inl (isN (bI_n c13)))]) hwr)
  · refine aw_ild2 X dX7_lamp_16 rfl ?_
    refine aw_iconst X (0) dX7_lamp_17 (by decide) rfl ?_
    refine aw_bipush X (9) dX7_lamp_18 (by decide) rfl ?_
    refine aw_callS X dX7_lamp_20 rfl (k_X7_is X.1 _ _ _) cmX7_is ml_X7_42 rfl rfl (Nat.le_of_ble_eq_true rfl) ⟨Nat.le_of_ble_eq_true rfl, Nat.le_of_ble_eq_true rfl⟩ (aw_rs ?_)
    refine aw_if_ne (n2 := 32) X dX7_lamp_23 rfl rfl (fun c23 => ?_) (fun c23 => ?_)
    · refine aw_ald0 X dX7_lamp_32 rfl ?_
      refine aw_get X fd_X7_22 dX7_lamp_33 rfl hmo rfl ?_
      refine aw_ist3 X dX7_lamp_36 rfl (by decide) rfl ?_
      refine aw_ald0 X dX7_lamp_37 rfl ?_
      refine aw_ild1 X dX7_lamp_38 rfl ?_
      refine aw_put X fd_X7_22 fw_X7_5 dX7_lamp_39 rfl htg hmo rfl rfl (Nat.le_of_ble_eq_true rfl) ?_
      refine aw_ald0 X dX7_lamp_42 rfl ?_
      refine aw_ild2 X dX7_lamp_43 rfl ?_
      refine aw_put X fd_X7_120 fw_X7_6 dX7_lamp_44 rfl htg hu_s rfl rfl (Nat.le_of_ble_eq_true rfl) ?_
      refine aw_ild3 X dX7_lamp_47 rfl ?_
      exact aw_iret X hret rfl dX7_lamp_48 (PoM.mk (k := 0) (σ2 := σ.wD x y) (by unfold sp_lamp; rw [if_neg (fun q => q.elim (isY (bI_y c13)) (isY (bI_y c23)))]) (by rw [hu_hu]; exact w1.objD 0 sm x y))
    · refine aw_ald0 X dX7_lamp_26 rfl ?_
      refine aw_iconst X (1) dX7_lamp_27 (by decide) rfl ?_
      refine aw_callV X dX7_lamp_28 rfl (k_X7_refuse X.1 htg w1 1) cmX7_refuse ml_X7_93 rfl hmo rfl rfl (Nat.le_of_ble_eq_true rfl) ⟨Nat.le_of_ble_eq_true rfl, Nat.le_of_ble_eq_true rfl⟩ (fun r h2 hq hf => ?_)
      obtain ⟨rfl, hwr⟩ := hq
      exact aw_iret X hret rfl dX7_lamp_31 (PoM.mk (k := 1) (σ2 := σ) (by unfold sp_lamp; rw [if_pos (Or.inr (isN (bI_n c23)))]) hwr)

set_option maxHeartbeats 4000000 in
set_option maxRecDepth 100000 in
theorem k_X7_joke {l : Launch} {s0 : State} {a0 : Array Value} {G : GG} (X : CX l s0 a0 G) {h : AH} {tg mo : Nat} {A : KA} {t : Int32} {sm : Int64} {σ : NS} (htg : tg ≠ 0) (w : MoW G h tg mo A t sm σ) (x : Int32)  : Con l s0 G yX7_joke cX7_joke 2 (some .int) 1 0 0 tg [.ref mo, .int x] h (PoM G tg mo (sp_joke σ x)) := by
  refine Con.of X (by decide +kernel) [some (.ref mo), some (.int x)] rfl (Nat.le_of_ble_eq_true rfl) (fun p e s m below meth c X hnm hret => ?_)
  have w0 := w
  obtain ⟨hmo, ⟨hlp, hls, hlf⟩, ⟨hP, hS, hF⟩, ⟨hn8, hn10, hn12⟩, hdd⟩ := id w
  refine aw_ald0 X dX7_joke_0 rfl ?_
  refine aw_iconst X (0) dX7_joke_1 (by decide) rfl ?_
  refine aw_put X fd_X7_35 fw_X7_0 dX7_joke_2 rfl htg hmo rfl rfl (Nat.le_of_ble_eq_true rfl) ?_
  refine aw_genP (Pr := fun h3 => MoW G h3 tg mo A 0 sm σ) (w0.obj 0 sm σ.v) (fun h1 w1 => ?_)
  clear hmo hlp hls hlf hP hS hF hdd
  obtain ⟨hmo, ⟨hlp, hls, hlf⟩, ⟨hP, hS, hF⟩, -, hdd⟩ := id w1
  refine aw_ild1 X dX7_joke_5 rfl ?_
  refine aw_iconst X (0) dX7_joke_6 (by decide) rfl ?_
  refine aw_bipush X (9) dX7_joke_7 (by decide) rfl ?_
  refine aw_callS X dX7_joke_9 rfl (k_X7_is X.1 _ _ _) cmX7_is ml_X7_42 rfl rfl (Nat.le_of_ble_eq_true rfl) ⟨Nat.le_of_ble_eq_true rfl, Nat.le_of_ble_eq_true rfl⟩ (aw_rs ?_)
  refine aw_if_ne (n2 := 21) X dX7_joke_12 rfl rfl (fun c12 => ?_) (fun c12 => ?_)
  · refine aw_ald0 X dX7_joke_21 rfl ?_
    refine aw_get X fd_X7_32 dX7_joke_22 rfl hmo rfl ?_
    refine aw_ild1 X dX7_joke_25 rfl ?_
    refine aw_icmp_ge (n2 := 42) X dX7_joke_26 rfl rfl (fun c26 => ?_) (fun c26 => ?_)
    · refine aw_ald0 X dX7_joke_42 rfl ?_
      refine aw_dup X dX7_joke_43 rfl rfl ?_
      refine aw_get X fd_X7_32 dX7_joke_44 rfl hmo rfl ?_
      refine aw_ild1 X dX7_joke_47 rfl ?_
      refine aw_isub X dX7_joke_48 rfl ?_
      refine aw_put X fd_X7_32 fw_X7_13 dX7_joke_49 rfl htg hmo rfl rfl (Nat.le_of_ble_eq_true rfl) ?_
      refine aw_ald0 X dX7_joke_52 rfl ?_
      refine aw_get X fd_X7_32 dX7_joke_53 rfl hu_s rfl ?_
      exact aw_iret X hret rfl dX7_joke_56 (PoM.mk (k := 0) (σ2 := σ.up 3 (σ.be - x)) (by unfold sp_joke; rw [if_neg (isY (bI_y c12)), if_pos c26]) (by exact w1.obj 0 sm (upd σ.v 3 (σ.be - x))))
    · refine aw_ald0 X dX7_joke_29 rfl ?_
      refine aw_dup X dX7_joke_30 rfl rfl ?_
      refine aw_get X fd_X7_203 dX7_joke_31 rfl hmo rfl ?_
      refine aw_iconst X (1) dX7_joke_34 (by decide) rfl ?_
      refine aw_iadd X dX7_joke_35 rfl ?_
      refine aw_put X fd_X7_203 fw_X7_16 dX7_joke_36 rfl htg hmo rfl rfl (Nat.le_of_ble_eq_true rfl) ?_
      refine aw_bipush X (-2) dX7_joke_39 (by decide) rfl ?_
      exact aw_iret X hret rfl dX7_joke_41 (PoM.mk (k := 0) (σ2 := σ.up 6 (σ.off + 1)) (by unfold sp_joke; rw [if_neg (isY (bI_y c12)), if_neg c26]) (by exact w1.obj 0 sm (upd σ.v 6 (σ.off + 1))))
  · refine aw_ald0 X dX7_joke_15 rfl ?_
    refine aw_iconst X (1) dX7_joke_16 (by decide) rfl ?_
    refine aw_callV X dX7_joke_17 rfl (k_X7_refuse X.1 htg w1 1) cmX7_refuse ml_X7_93 rfl hmo rfl rfl (Nat.le_of_ble_eq_true rfl) ⟨Nat.le_of_ble_eq_true rfl, Nat.le_of_ble_eq_true rfl⟩ (fun r h2 hq hf => ?_)
    obtain ⟨rfl, hwr⟩ := hq
    exact aw_iret X hret rfl dX7_joke_20 (PoM.mk (k := 1) (σ2 := σ) (by unfold sp_joke; rw [if_pos (isN (bI_n c12))]) hwr)
