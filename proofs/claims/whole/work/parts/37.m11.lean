/-! THE MODEL'S CALLS: grips that can be -/

set_option maxHeartbeats 4000000 in
set_option maxRecDepth 100000 in
theorem k_X7_gripNow {l : Launch} {s0 : State} {a0 : Array Value} {G : GG} (X : CX l s0 a0 G) {h : AH} {tg mo : Nat} {A : KA} {t : Int32} {sm : Int64} {σ : NS} (htg : tg ≠ 0) (w : MoW G h tg mo A t sm σ) (hv : IV σ)  : Con l s0 G yX7_gripNow cX7_gripNow 3 (some .int) 5 24 96 tg [.ref mo] h (RE (.int (gripF (sdS σ) σ.F σ.nf σ.nf)) h) := by
  refine Con.of X (by decide +kernel) [some (.ref mo), none, none] rfl (Nat.le_of_ble_eq_true rfl) (fun p e s m below meth c X hnm hret => ?_)
  have w0 := w
  obtain ⟨hmo, ⟨hlp, hls, hlf⟩, ⟨hP, hS, hF⟩, ⟨hn8, hn10, hn12⟩, hdd⟩ := id w
  refine aw_iconst X (0) dX7_gripNow_0 (by decide) rfl ?_
  refine aw_ist1 X dX7_gripNow_1 rfl (by decide) rfl ?_
  refine aw_iconst X (0) dX7_gripNow_2 (by decide) rfl ?_
  refine aw_ist2 X dX7_gripNow_3 rfl (by decide) rfl ?_
  refine aw_dn (n := σ.nf) (A := fun j k => ∀ (h9 : AH), ∀ (x : Int32), ∀ (u : Int32), ∀ (b : Nat), ∀ (d : Nat), (∀ a c, h a = some c → h9 a = some c) → (x = nI k) → (u = gripF (sdS σ) σ.F σ.nf k) → (2 * j ≤ b) → (8 * j ≤ d) → AW p l e _ s m _ below meth c _ s0 G 3 tg _ h9 b d 4 [some (.ref mo), some (.int u), some (.int x)] []) ?_ ?_ σ.nf 0 rfl _ 0 0 24 96 (fun a c e => e) nI_0.symm rfl (by omega) (by omega)
  · intro h9 x u b d hx9 hx hI hb hd
    have w9 := w0.ext hx9
    obtain ⟨hmo, ⟨hlp, hls, hlf⟩, ⟨hP, hS, hF⟩, -⟩ := id w9
    refine aw_ild2 X dX7_gripNow_4 rfl ?_
    refine aw_ald0 X dX7_gripNow_5 rfl ?_
    refine aw_get X fd_X7_16 dX7_gripNow_6 rfl hmo rfl ?_
    refine aw_callV X dX7_gripNow_9 rfl (k_size X.1 hlf) cmJx4a65c_size_8abf5 ml_X7_38 rfl hlf.1 rfl rfl (Nat.le_of_ble_eq_true rfl) ⟨Nat.le_of_ble_eq_true rfl, Nat.le_of_ble_eq_true rfl⟩ (aw_rs ?_)
    refine aw_icmp_ge (n2 := 36) X dX7_gripNow_12 rfl rfl (fun c12 => ?_) (fun c12 => absurd (ge_t hx (Nat.le_refl _) (by omega)) c12)
    refine aw_ild1 X dX7_gripNow_36 rfl ?_
    exact aw_iret X hret rfl dX7_gripNow_37 (⟨by rw [hI], hx9⟩)
  · intro j k hjk ih h9 x u b d hx9 hx hI hb hd
    have w9 := w0.ext hx9
    obtain ⟨hmo, ⟨hlp, hls, hlf⟩, ⟨hP, hS, hF⟩, -⟩ := id w9
    refine aw_ild2 X dX7_gripNow_4 rfl ?_
    refine aw_ald0 X dX7_gripNow_5 rfl ?_
    refine aw_get X fd_X7_16 dX7_gripNow_6 rfl hmo rfl ?_
    refine aw_callV X dX7_gripNow_9 rfl (k_size X.1 hlf) cmJx4a65c_size_8abf5 ml_X7_38 rfl hlf.1 rfl rfl (Nat.le_of_ble_eq_true rfl) ⟨Nat.le_of_ble_eq_true rfl, Nat.le_of_ble_eq_true rfl⟩ (aw_rs ?_)
    refine aw_icmp_ge (n2 := 36) X dX7_gripNow_12 rfl rfl (fun c12 => absurd c12 (ge_f hx (by omega) (by omega))) (fun c12 => ?_)
    refine aw_ald0 X dX7_gripNow_15 rfl ?_
    refine aw_ild2 X dX7_gripNow_16 rfl ?_
    obtain ⟨b2, rfl⟩ : ∃ b2, b = b2 + 2 := ⟨b - 2, by omega⟩
    obtain ⟨d2, rfl⟩ : ∃ d2, d = d2 + 8 := ⟨d - 8, by omega⟩
    refine aw_callV X dX7_gripNow_17 rfl (k_X7_gripper X.1 htg w9 hv hx (by omega)) cmX7_gripper ml_X7_135 rfl hmo rfl rfl (Nat.le_of_ble_eq_true rfl) ⟨Nat.le_of_ble_eq_true rfl, Nat.le_of_ble_eq_true rfl⟩ (fun r h2 hq hf => ?_)
    obtain ⟨rfl, hxA⟩ := hq
    refine aw_iconst X (-1) dX7_gripNow_20 (by decide) rfl ?_
    refine aw_icmp_eq (n2 := 30) X dX7_gripNow_21 rfl rfl (fun c21 => ?_) (fun c21 => ?_)
    · refine aw_iinc2 X (1) dX7_gripNow_30 (by decide) rfl (by decide) rfl ?_
      refine aw_goto (n := 4) X dX7_gripNow_33 rfl ?_
      exact ih _ (x + 1) _ b2 d2 (fun a c e => hxA a c (hx9 a c e)) (nx hx) (by rw [hI]; exact (if_neg (fun q => q c21)).symm) (by omega) (by omega)
    · refine aw_ild1 X dX7_gripNow_24 rfl ?_
      refine aw_iconst X (1) dX7_gripNow_25 (by decide) rfl ?_
      refine aw_ild2 X dX7_gripNow_26 rfl ?_
      refine aw_ishl X dX7_gripNow_27 rfl ?_
      refine aw_ior X dX7_gripNow_28 rfl ?_
      refine aw_ist1 X dX7_gripNow_29 rfl (by decide) rfl ?_
      refine aw_iinc2 X (1) dX7_gripNow_30 (by decide) rfl (by decide) rfl ?_
      refine aw_goto (n := 4) X dX7_gripNow_33 rfl ?_
      exact ih _ (x + 1) _ b2 d2 (fun a c e => hxA a c (hx9 a c e)) (nx hx) (by rw [hI, hx]; exact (if_pos c21).symm) (by omega) (by omega)

set_option maxHeartbeats 4000000 in
set_option maxRecDepth 100000 in
theorem k_X7_gripable {l : Launch} {s0 : State} {a0 : Array Value} {G : GG} (X : CX l s0 a0 G) {h : AH} {tg mo : Nat} {A : KA} {t : Int32} {sm : Int64} {σ : NS} (htg : tg ≠ 0) (w : MoW G h tg mo A t sm σ) (hv : IV σ)  : Con l s0 G yX7_gripable cX7_gripable 1 (some .int) 6 24 96 tg [.ref mo] h (fun r h2 => some (.int (gripF (sdS σ) σ.F σ.nf σ.nf)) = r ∧ MoW G h2 tg mo A 0 sm σ) := by
  refine Con.of X (by decide +kernel) [some (.ref mo)] rfl (Nat.le_of_ble_eq_true rfl) (fun p e s m below meth c X hnm hret => ?_)
  have w0 := w
  obtain ⟨hmo, ⟨hlp, hls, hlf⟩, ⟨hP, hS, hF⟩, ⟨hn8, hn10, hn12⟩, hdd⟩ := id w
  refine aw_ald0 X dX7_gripable_0 rfl ?_
  refine aw_iconst X (0) dX7_gripable_1 (by decide) rfl ?_
  refine aw_put X fd_X7_35 fw_X7_0 dX7_gripable_2 rfl htg hmo rfl rfl (Nat.le_of_ble_eq_true rfl) ?_
  refine aw_genP (Pr := fun h3 => MoW G h3 tg mo A 0 sm σ) (w0.obj 0 sm σ.v) (fun h1 w1 => ?_)
  clear hmo hlp hls hlf hP hS hF hdd
  obtain ⟨hmo, ⟨hlp, hls, hlf⟩, ⟨hP, hS, hF⟩, -, hdd⟩ := id w1
  refine aw_ald0 X dX7_gripable_5 rfl ?_
  refine aw_callV X dX7_gripable_6 rfl (k_X7_gripNow X.1 htg w1 hv) cmX7_gripNow ml_X7_236 rfl hmo rfl rfl (Nat.le_of_ble_eq_true rfl) ⟨Nat.le_of_ble_eq_true rfl, Nat.le_of_ble_eq_true rfl⟩ (fun r h2 hq hf => ?_)
  obtain ⟨rfl, hxA⟩ := hq
  exact aw_iret X hret rfl dX7_gripable_9 (⟨rfl, w1.ext hxA⟩)
