/-! small methods of the class -/
set_option maxHeartbeats 4000000 in
set_option maxRecDepth 100000 in
theorem k_X0_init {l : Launch} {s0 : State} {a0 : Array Value} {G : GG} (X : CX l s0 a0 G) {h : AH} {a tg : Nat} (htg : tg ≠ 0) (x1 x2 x3 : Int32) (hf : h a = some (tg, .inr (2, [.int 0, .int 0, .int 0, .int 0, .int 0, .int 0, .int 0]))) : Con l s0 G yX0_init cX0_init 4 none 1 0 0 tg [.ref a, .int x1, .int x2, .int x3] h (RV (hu h a (tg, .inr (2, [.int x1, .int x2, .int x3, .int 0, .int 0, .int (-1), .int 0])))) := by
  refine Con.of X (by decide +kernel) [some (.ref a), some (.int x1), some (.int x2), some (.int x3)] rfl (Nat.le_of_ble_eq_true rfl) (fun p e s m below meth c X hnm hret => ?_)
  refine aw_ald0 X dX0_init_0 rfl ?_
  refine aw_objInit X dX0_init_1 rfl ⟨ml_X0_3, oi_ok⟩ (Nat.le_of_ble_eq_true rfl) (Nat.le_of_ble_eq_true rfl) ?_
  refine aw_ald0 X dX0_init_4 rfl ?_
  refine aw_iconst X (0) dX0_init_5 (by decide) rfl ?_
  refine aw_put X fd_X0_9 fw_X0_3 dX0_init_6 rfl htg hf rfl rfl (Nat.le_of_ble_eq_true rfl) ?_
  refine aw_ald0 X dX0_init_9 rfl ?_
  refine aw_iconst X (0) dX0_init_10 (by decide) rfl ?_
  refine aw_put X fd_X0_15 fw_X0_4 dX0_init_11 rfl htg hu_s rfl rfl (Nat.le_of_ble_eq_true rfl) ?_
  refine aw_ald0 X dX0_init_14 rfl ?_
  refine aw_iconst X (-1) dX0_init_15 (by decide) rfl ?_
  refine aw_put X fd_X0_18 fw_X0_5 dX0_init_16 rfl htg hu_s rfl rfl (Nat.le_of_ble_eq_true rfl) ?_
  refine aw_ald0 X dX0_init_19 rfl ?_
  refine aw_iconst X (0) dX0_init_20 (by decide) rfl ?_
  refine aw_put X fd_X0_21 fw_X0_6 dX0_init_21 rfl htg hu_s rfl rfl (Nat.le_of_ble_eq_true rfl) ?_
  refine aw_ald0 X dX0_init_24 rfl ?_
  refine aw_ild1 X dX0_init_25 rfl ?_
  refine aw_putF X fd_X0_24 fi_X0_0 hnm dX0_init_26 rfl htg hu_s rfl rfl (Nat.le_of_ble_eq_true rfl) ?_
  refine aw_ald0 X dX0_init_29 rfl ?_
  refine aw_ild2 X dX0_init_30 rfl ?_
  refine aw_putF X fd_X0_27 fi_X0_1 hnm dX0_init_31 rfl htg hu_s rfl rfl (Nat.le_of_ble_eq_true rfl) ?_
  refine aw_ald0 X dX0_init_34 rfl ?_
  refine aw_ild3 X dX0_init_35 rfl ?_
  refine aw_putF X fd_X0_30 fi_X0_2 hnm dX0_init_36 rfl htg hu_s rfl rfl (Nat.le_of_ble_eq_true rfl) ?_
  exact aw_vret X hret dX0_init_39 (⟨rfl, by simp only [hu_hu]; rfl⟩)

set_option maxHeartbeats 4000000 in
set_option maxRecDepth 100000 in
theorem k_X0_inHand {l : Launch} {s0 : State} {a0 : Array Value} {G : GG} (X : CX l s0 a0 G) {h : AH} {a t tg : Nat} {f : Nat → Int32} (hf : h a = some (t, oFig f)) : Con l s0 G yX0_inHand cX0_inHand 1 (some .boolean) 0 0 0 tg [.ref a] h (RS (.int (bI (f 4 = 2 ∨ f 4 = 3))) h) := by
  refine Con.of X (by decide +kernel) [some (.ref a)] rfl (Nat.le_of_ble_eq_true rfl) (fun p e s m below meth c X hnm hret => ?_)
  refine aw_ald0 X dX0_inHand_0 rfl ?_
  refine aw_get X fd_X0_15 dX0_inHand_1 rfl hf rfl ?_
  refine aw_iconst X (2) dX0_inHand_4 (by decide) rfl ?_
  refine aw_icmp_eq (n2 := 16) X dX0_inHand_5 rfl rfl (fun c5 => ?_) (fun c5 => ?_)
  · refine aw_iconst X (1) dX0_inHand_16 (by decide) rfl ?_
    refine aw_goto (n := 21) X dX0_inHand_17 rfl ?_
    exact aw_iret X hret rfl dX0_inHand_21 (⟨by rw [bI_t (Or.inl c5)], rfl⟩)
  · refine aw_ald0 X dX0_inHand_8 rfl ?_
    refine aw_get X fd_X0_15 dX0_inHand_9 rfl hf rfl ?_
    refine aw_iconst X (3) dX0_inHand_12 (by decide) rfl ?_
    refine aw_icmp_ne (n2 := 20) X dX0_inHand_13 rfl rfl (fun c13 => ?_) (fun c13 => ?_)
    · refine aw_iconst X (0) dX0_inHand_20 (by decide) rfl ?_
      exact aw_iret X hret rfl dX0_inHand_21 (⟨by rw [bI_f (not_or.mpr ⟨c5, c13⟩)], rfl⟩)
    · refine aw_iconst X (1) dX0_inHand_16 (by decide) rfl ?_
      refine aw_goto (n := 21) X dX0_inHand_17 rfl ?_
      exact aw_iret X hret rfl dX0_inHand_21 (⟨by rw [bI_t (Or.inr c13)], rfl⟩)

set_option maxHeartbeats 4000000 in
set_option maxRecDepth 100000 in
theorem k_X0_shown {l : Launch} {s0 : State} {a0 : Array Value} {G : GG} (X : CX l s0 a0 G) {h : AH} {a t tg : Nat} {f : Nat → Int32} (hf : h a = some (t, oFig f)) : Con l s0 G yX0_shown cX0_shown 1 (some .boolean) 0 0 0 tg [.ref a] h (RS (.int (bI (f 4 ≠ 0))) h) := by
  refine Con.of X (by decide +kernel) [some (.ref a)] rfl (Nat.le_of_ble_eq_true rfl) (fun p e s m below meth c X hnm hret => ?_)
  refine aw_ald0 X dX0_shown_0 rfl ?_
  refine aw_get X fd_X0_15 dX0_shown_1 rfl hf rfl ?_
  refine aw_if_eq (n2 := 11) X dX0_shown_4 rfl rfl (fun c4 => ?_) (fun c4 => ?_)
  · refine aw_iconst X (0) dX0_shown_11 (by decide) rfl ?_
    exact aw_iret X hret rfl dX0_shown_12 (⟨by rw [bI_f (fun q => q c4)], rfl⟩)
  · refine aw_iconst X (1) dX0_shown_7 (by decide) rfl ?_
    refine aw_goto (n := 12) X dX0_shown_8 rfl ?_
    exact aw_iret X hret rfl dX0_shown_12 (⟨by rw [bI_t c4], rfl⟩)

def wearF (f : Nat → Int32) (x : Int32) : Nat → Int32 := upd f 3 (if f 3 + x < 100 then f 3 + x else 100)

set_option maxHeartbeats 4000000 in
set_option maxRecDepth 100000 in
theorem k_X0_wearBy {l : Launch} {s0 : State} {a0 : Array Value} {G : GG} (X : CX l s0 a0 G) {h : AH} {a tg : Nat} {f : Nat → Int32} (htg : tg ≠ 0) (x : Int32) (hf : h a = some (tg, oFig f)) : Con l s0 G yX0_wearBy cX0_wearBy 2 none 1 0 0 tg [.ref a, .int x] h (RV (hu h a (tg, oFig (wearF f x)))) := by
  refine Con.of X (by decide +kernel) [some (.ref a), some (.int x)] rfl (Nat.le_of_ble_eq_true rfl) (fun p e s m below meth c X hnm hret => ?_)
  refine aw_ald0 X dX0_wearBy_0 rfl ?_
  refine aw_bipush X (100) dX0_wearBy_1 (by decide) rfl ?_
  refine aw_ald0 X dX0_wearBy_3 rfl ?_
  refine aw_get X fd_X0_9 dX0_wearBy_4 rfl hf rfl ?_
  refine aw_ild1 X dX0_wearBy_7 rfl ?_
  refine aw_iadd X dX0_wearBy_8 rfl ?_
  refine aw_mmin X dX0_wearBy_9 rfl ⟨ml_X0_33, mm_min⟩ (Nat.le_of_ble_eq_true rfl) (Nat.le_of_ble_eq_true rfl) ?_
  refine aw_put X fd_X0_9 fw_X0_3 dX0_wearBy_12 rfl htg hf rfl rfl (Nat.le_of_ble_eq_true rfl) ?_
  exact aw_vret X hret dX0_wearBy_15 (⟨rfl, rfl⟩)
