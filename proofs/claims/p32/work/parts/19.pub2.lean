/-! THE NIGHT GOES BY -/
def spd (r : Nat → Int32) : Prop := r 1 = 0 ∨ r 1 = 1 ∨ r 1 = 2 ∨ r 1 = 3
theorem play_ok {r : Nat → Int32} (h : spd r) : 8 * r 1 = nI (8 * r 1).toNatClampNeg ∧ (8 * r 1).toNatClampNeg < 1000 := by
  rcases h with h | h | h | h <;> rw [h] <;> decide
theorem gong_spd {r : Nat → Int32} (h : spd r) : spd (gongR r) := by
  have e : (gongR r) 1 = if r 3 = 1 then (if r 1 + 1 < 3 then r 1 + 1 else 3) else if r 3 = 2 then (if 1 < r 1 - 1 then r 1 - 1 else 1) else if r 3 = 3 then 0 else r 1 := by
    unfold gongR
    by_cases c1 : r 3 = 1
    · simp [c1, upd]
    · by_cases c2 : r 3 = 2
      · simp [c1, c2, upd]
      · by_cases c3 : r 3 = 3
        · simp [c1, c2, c3, upd]
        · simp [c1, c2, c3, upd]
  unfold spd
  rw [e]
  split
  · rcases h with h | h | h | h <;> rw [h] <;> decide
  · split
    · rcases h with h | h | h | h <;> rw [h] <;> decide
    · split
      · exact Or.inl rfl
      · exact h
theorem beat_spd {r : Nat → Int32} (h : spd r) : spd (beatR r) := by
  unfold beatR
  split
  · exact gong_spd h
  · exact h
theorem beats_spd : ∀ (j : Nat) {r : Nat → Int32}, spd r → spd (beatsR j r) := by
  intro j
  induction j with
  | zero => intro r h; exact h
  | succ j ih =>
    intro r h
    show spd (if r 0 = -1 then r else beatsR j (beatR r))
    split
    · exact h
    · exact ih (beat_spd h)
def mn1 (σ : NS) : NS := (σ.up 0 (σ.mi + 1)).wO (playR σ.o)
def mn2 (sp : Int32) (σ : NS) : NS := if sp = 0 ∧ 0 < σ.ti then (mn1 σ).up 1 (σ.ti - 1) else mn1 σ
/-- a minute -/
def mnS (sp : Int32) (σ : NS) : NS := if σ.mi + 1 - (σ.mi + 1) / 30 * 30 = 0 then (mn2 sp σ).wF (mn2 sp σ).nf (wearF1 (mn2 sp σ).F (mn2 sp σ).nf) else mn2 sp σ
def goN (sp : Int32) (k : Nat) (σ : NS) : NS := fo (fun _ u => mnS sp u) σ k
theorem mn2_o (sp : Int32) (σ : NS) : (mn2 sp σ).o = playR σ.o := by
  unfold mn2
  split <;> rfl
theorem mnS_o (sp : Int32) (σ : NS) : (mnS sp σ).o = playR σ.o := by
  unfold mnS
  split
  · exact mn2_o sp σ
  · exact mn2_o sp σ
theorem wearF1_own (F : Nat → Nat → Int32) (n : Nat) (i : Nat) : wearF1 F n i 0 = F i 0 := by
  unfold wearF1
  split <;> rfl

set_option maxHeartbeats 4000000 in
set_option maxRecDepth 100000 in
theorem k_X6_goBy {l : Launch} {s0 : State} {a0 : Array Value} {G : GG} (X : CX l s0 a0 G) {h : AH} {tg ke : Nat} {A : KA} {σ : NS} (htg : tg ≠ 0) (w : KelW G h tg ke A σ) (hs0 : spd σ.o) {m9 : Nat} {i9 : Int32} (hi9 : i9 = nI m9) (hm9 : m9 < 1000) (sp : Int32) : Con l s0 G yX6_goBy cX6_goBy 4 none 5 0 0 tg [.ref ke, .int i9, .int sp] h (fun r h2 => none = r ∧ KelW G h2 tg ke A (goN sp m9 σ) ∧ spd (goN sp m9 σ).o) := by
  refine Con.of X (by decide +kernel) [some (.ref ke), some (.int i9), some (.int sp), none] rfl (Nat.le_of_ble_eq_true rfl) (fun p e s m below meth c X hnm hret => ?_)
  refine aw_iconst X (0) dX6_goBy_0 (by decide) rfl ?_
  refine aw_ist3 X dX6_goBy_1 rfl (by decide) rfl ?_
  refine aw_dn (n := m9) (A := fun j k => ∀ (x : Int32), ∀ (h9 : AH), ∀ (σk : NS), (x = nI k) → (σk = goN sp k σ) → (KelW G h9 tg ke A σk) → (spd σk.o) → AW p l e _ s m _ below meth c _ s0 G 4 tg _ h9 _ _ 2 [some (.ref ke), some (.int i9), some (.int sp), some (.int x)] []) ?_ ?_ m9 0 rfl 0 h σ nI_0.symm rfl w hs0
  · intro x h9 σk hx hσ hw9 hs9
    refine aw_ild3 X dX6_goBy_2 rfl ?_
    refine aw_ild1 X dX6_goBy_3 rfl ?_
    refine aw_icmp_ge (n2 := 68) X dX6_goBy_4 rfl rfl (fun c4 => ?_) (fun c4 => absurd (by rw [hi9]; exact ge_t hx (Nat.le_refl _) (by omega)) c4)
    exact aw_vret X hret dX6_goBy_68 (⟨rfl, by rw [← hσ]; exact hw9, by rw [← hσ]; exact hs9⟩)
  · intro j k hjk ih x h9 σk hx hσ hw9 hs9
    have w1 := hw9.own (upd σk.v 0 (σk.mi + 1))
    have hpo := play_ok hs9
    have w2 := w1.orc (playR σk.o)
    refine aw_ild3 X dX6_goBy_2 rfl ?_
    refine aw_ild1 X dX6_goBy_3 rfl ?_
    refine aw_icmp_ge (n2 := 68) X dX6_goBy_4 rfl rfl (fun c4 => absurd c4 (by rw [hi9]; exact ge_f hx (by omega) (by omega))) (fun c4 => ?_)
    refine aw_ald0 X dX6_goBy_7 rfl ?_
    refine aw_dup X dX6_goBy_8 rfl rfl ?_
    refine aw_get X fd_X6_30 dX6_goBy_9 rfl hw9.1 rfl ?_
    refine aw_iconst X (1) dX6_goBy_12 (by decide) rfl ?_
    refine aw_iadd X dX6_goBy_13 rfl ?_
    refine aw_put X fd_X6_30 fw_X6_3 dX6_goBy_14 rfl htg hw9.1 rfl rfl (Nat.le_of_ble_eq_true rfl) ?_
    refine aw_ald0 X dX6_goBy_17 rfl ?_
    refine aw_get X fd_X6_26 dX6_goBy_18 rfl w1.1 rfl ?_
    refine aw_callV X dX6_goBy_21 rfl (k_X1_playMinute X.1 htg w1.2.2.2.1 hpo.1 hpo.2) cmX1_playMinute ml_X6_365 rfl w1.2.2.2.1 rfl rfl (Nat.le_of_ble_eq_true rfl) ⟨Nat.le_of_ble_eq_true rfl, Nat.le_of_ble_eq_true rfl⟩ (aw_rv ?_)
    refine aw_ild2 X dX6_goBy_24 rfl ?_
    refine aw_if_ne (n2 := 45) X dX6_goBy_25 rfl rfl (fun c25 => ?_) (fun c25 => ?_)
    · have hM2 := (show mn2 sp σk = mn1 σk from if_neg (fun q => c25 q.1))
      refine aw_ald0 X dX6_goBy_45 rfl ?_
      refine aw_get X fd_X6_30 dX6_goBy_46 rfl w2.1 rfl ?_
      refine aw_bipush X (30) dX6_goBy_49 (by decide) rfl ?_
      refine aw_irem X dX6_goBy_51 (by decide) rfl ?_
      refine aw_if_ne (n2 := 62) X dX6_goBy_52 rfl rfl (fun c52 => ?_) (fun c52 => ?_)
      · refine aw_iinc3 X (1) dX6_goBy_62 (by decide) rfl (by decide) rfl ?_
        refine aw_goto (n := 2) X dX6_goBy_65 rfl ?_
        have hE : goN sp (k + 1) σ = mnS sp σk := by rw [hσ]; rfl
        exact ih (x + 1) _ _ (nx hx) hE.symm (by unfold mnS; rw [if_neg (show ¬ σk.mi + 1 - (σk.mi + 1) / 30 * 30 = 0 from c52), hM2]; exact w2) (by rw [mnS_o]; exact beats_spd _ hs9)
      · refine aw_ald0 X dX6_goBy_55 rfl ?_
        refine aw_get X fd_X6_19 dX6_goBy_56 rfl w2.1 rfl ?_
        refine aw_callV X dX6_goBy_59 rfl (k_X5_wearShown X.1 w2.2.2.1 htg) cmX5_wearShown ml_X6_368 rfl w2.2.2.1.1 rfl rfl (Nat.le_of_ble_eq_true rfl) ⟨Nat.le_of_ble_eq_true rfl, Nat.le_of_ble_eq_true rfl⟩ (fun r h2 hq hf => ?_)
        obtain ⟨rfl, hs2, hk2⟩ := hq
        have w4 := w2.figs _ (wearF1_own _ _) hs2 hk2
        refine aw_iinc3 X (1) dX6_goBy_62 (by decide) rfl (by decide) rfl ?_
        refine aw_goto (n := 2) X dX6_goBy_65 rfl ?_
        have hE : goN sp (k + 1) σ = mnS sp σk := by rw [hσ]; rfl
        exact ih (x + 1) _ _ (nx hx) hE.symm (by unfold mnS; rw [if_pos (show σk.mi + 1 - (σk.mi + 1) / 30 * 30 = 0 from c52), hM2]; exact w4) (by rw [mnS_o]; exact beats_spd _ hs9)
    · refine aw_ald0 X dX6_goBy_28 rfl ?_
      refine aw_get X fd_X6_34 dX6_goBy_29 rfl w2.1 rfl ?_
      refine aw_if_le (n2 := 45) X dX6_goBy_32 rfl rfl (fun c32 => ?_) (fun c32 => ?_)
      · have hM2 := (show mn2 sp σk = mn1 σk from if_neg (fun q => Int32.not_lt.mpr c32 q.2))
        refine aw_ald0 X dX6_goBy_45 rfl ?_
        refine aw_get X fd_X6_30 dX6_goBy_46 rfl w2.1 rfl ?_
        refine aw_bipush X (30) dX6_goBy_49 (by decide) rfl ?_
        refine aw_irem X dX6_goBy_51 (by decide) rfl ?_
        refine aw_if_ne (n2 := 62) X dX6_goBy_52 rfl rfl (fun c52 => ?_) (fun c52 => ?_)
        · refine aw_iinc3 X (1) dX6_goBy_62 (by decide) rfl (by decide) rfl ?_
          refine aw_goto (n := 2) X dX6_goBy_65 rfl ?_
          have hE : goN sp (k + 1) σ = mnS sp σk := by rw [hσ]; rfl
          exact ih (x + 1) _ _ (nx hx) hE.symm (by unfold mnS; rw [if_neg (show ¬ σk.mi + 1 - (σk.mi + 1) / 30 * 30 = 0 from c52), hM2]; exact w2) (by rw [mnS_o]; exact beats_spd _ hs9)
        · refine aw_ald0 X dX6_goBy_55 rfl ?_
          refine aw_get X fd_X6_19 dX6_goBy_56 rfl w2.1 rfl ?_
          refine aw_callV X dX6_goBy_59 rfl (k_X5_wearShown X.1 w2.2.2.1 htg) cmX5_wearShown ml_X6_368 rfl w2.2.2.1.1 rfl rfl (Nat.le_of_ble_eq_true rfl) ⟨Nat.le_of_ble_eq_true rfl, Nat.le_of_ble_eq_true rfl⟩ (fun r h2 hq hf => ?_)
          obtain ⟨rfl, hs2, hk2⟩ := hq
          have w4 := w2.figs _ (wearF1_own _ _) hs2 hk2
          refine aw_iinc3 X (1) dX6_goBy_62 (by decide) rfl (by decide) rfl ?_
          refine aw_goto (n := 2) X dX6_goBy_65 rfl ?_
          have hE : goN sp (k + 1) σ = mnS sp σk := by rw [hσ]; rfl
          exact ih (x + 1) _ _ (nx hx) hE.symm (by unfold mnS; rw [if_pos (show σk.mi + 1 - (σk.mi + 1) / 30 * 30 = 0 from c52), hM2]; exact w4) (by rw [mnS_o]; exact beats_spd _ hs9)
      · refine aw_ald0 X dX6_goBy_35 rfl ?_
        refine aw_dup X dX6_goBy_36 rfl rfl ?_
        refine aw_get X fd_X6_34 dX6_goBy_37 rfl w2.1 rfl ?_
        refine aw_iconst X (1) dX6_goBy_40 (by decide) rfl ?_
        refine aw_isub X dX6_goBy_41 rfl ?_
        refine aw_put X fd_X6_34 fw_X6_4 dX6_goBy_42 rfl htg w2.1 rfl rfl (Nat.le_of_ble_eq_true rfl) ?_
        have w3 := w2.own (upd (mn1 σk).v 1 (σk.ti - 1))
        have hM2 := (show mn2 sp σk = (mn1 σk).up 1 (σk.ti - 1) from if_pos ⟨c25, Int32.not_le.mp c32⟩)
        refine aw_ald0 X dX6_goBy_45 rfl ?_
        refine aw_get X fd_X6_30 dX6_goBy_46 rfl w3.1 rfl ?_
        refine aw_bipush X (30) dX6_goBy_49 (by decide) rfl ?_
        refine aw_irem X dX6_goBy_51 (by decide) rfl ?_
        refine aw_if_ne (n2 := 62) X dX6_goBy_52 rfl rfl (fun c52 => ?_) (fun c52 => ?_)
        · refine aw_iinc3 X (1) dX6_goBy_62 (by decide) rfl (by decide) rfl ?_
          refine aw_goto (n := 2) X dX6_goBy_65 rfl ?_
          have hE : goN sp (k + 1) σ = mnS sp σk := by rw [hσ]; rfl
          exact ih (x + 1) _ _ (nx hx) hE.symm (by unfold mnS; rw [if_neg (show ¬ σk.mi + 1 - (σk.mi + 1) / 30 * 30 = 0 from c52), hM2]; exact w3) (by rw [mnS_o]; exact beats_spd _ hs9)
        · refine aw_ald0 X dX6_goBy_55 rfl ?_
          refine aw_get X fd_X6_19 dX6_goBy_56 rfl w3.1 rfl ?_
          refine aw_callV X dX6_goBy_59 rfl (k_X5_wearShown X.1 w3.2.2.1 htg) cmX5_wearShown ml_X6_368 rfl w3.2.2.1.1 rfl rfl (Nat.le_of_ble_eq_true rfl) ⟨Nat.le_of_ble_eq_true rfl, Nat.le_of_ble_eq_true rfl⟩ (fun r h2 hq hf => ?_)
          obtain ⟨rfl, hs2, hk2⟩ := hq
          have w4 := w3.figs _ (wearF1_own _ _) hs2 hk2
          refine aw_iinc3 X (1) dX6_goBy_62 (by decide) rfl (by decide) rfl ?_
          refine aw_goto (n := 2) X dX6_goBy_65 rfl ?_
          have hE : goN sp (k + 1) σ = mnS sp σk := by rw [hσ]; rfl
          exact ih (x + 1) _ _ (nx hx) hE.symm (by unfold mnS; rw [if_pos (show σk.mi + 1 - (σk.mi + 1) / 30 * 30 = 0 from c52), hM2]; exact w4) (by rw [mnS_o]; exact beats_spd _ hs9)
