/-! THE MODEL'S START -/

set_option maxHeartbeats 4000000 in
set_option maxRecDepth 100000 in
theorem k_X7_init {l : Launch} {s0 : State} {a0 : Array Value} {G : GG} (X : CX l s0 a0 G) {h : AH} {a t0 tg : Nat} (htg : tg ≠ 0) (ha : h a = some (tg, .inr (9, [.int 0, .null, .null, .null, .int 0, .int 0, .int 0, .int 0, .int 0, .int 0, .int 0, .int 0, .int 0, .int 0, .int 0, .int 0, .int 0, .int 0, .long 0]))) (h0 : h (G.2.2 0) = some (t0, oArr 0 (fun _ => none)))  : Con l s0 G yX7_init cX7_init 1 none 5 3 9 tg [.ref a] h (fun r h2 => none = r ∧ ∃ A, MoW G h2 tg a A 0 0 ns0) := by
  refine Con.of X (by decide +kernel) [some (.ref a)] rfl (Nat.le_of_ble_eq_true rfl) (fun p e s m below meth c X hnm hret => ?_)
  refine aw_ald0 X dX7_init_0 rfl ?_
  refine aw_objInit X dX7_init_1 rfl ⟨ml_X7_1, oi_ok⟩ (Nat.le_of_ble_eq_true rfl) (Nat.le_of_ble_eq_true rfl) ?_
  refine aw_ald0 X dX7_init_4 rfl ?_
  skip
  refine aw_new X nw_X7_7 dX7_init_5 rfl (fun q5 hq5 => ?_)
  refine aw_dup X dX7_init_8 rfl rfl ?_
  refine aw_callI X dX7_init_9 rfl (k_Jx4a65c_init_da8c8 X.1 htg hu_s) cmJx4a65c_init_da8c8 ml_X7_9 rfl rfl (Nat.le_of_ble_eq_true rfl) ⟨Nat.le_of_ble_eq_true rfl, Nat.le_of_ble_eq_true rfl⟩ (aw_rv ?_)
  rw [hu_hu]
  have hA : hu h q5 (tg, oLst 0 (G.2.2 0) 0) a = some (tg, .inr (9, [.int 0, .null, .null, .null, .int 0, .int 0, .int 0, .int 0, .int 0, .int 0, .int 0, .int 0, .int 0, .int 0, .int 0, .int 0, .int 0, .int 0, .long 0])) := hu_k hq5 ha
  refine aw_putF X fd_X7_10 fi_X7_1 hnm dX7_init_12 rfl htg hA rfl rfl (Nat.le_of_ble_eq_true rfl) ?_
  refine aw_genP (Pr := fun h4 => h4 a = some (tg, .inr (9, [.int 0, .ref q5, .null, .null, .int 0, .int 0, .int 0, .int 0, .int 0, .int 0, .int 0, .int 0, .int 0, .int 0, .int 0, .int 0, .int 0, .int 0, .long 0])) ∧ h4 q5 = some (tg, oLst 0 (G.2.2 0) 0) ∧ h4 (G.2.2 0) = some (t0, oArr 0 (fun _ => none))) ⟨hu_s, (hu_n (kk_ne hu_s hA (show (1 : Nat) ≠ 9 by decide))).trans hu_s, (hu_n (kk_ne (hu_k hq5 h0) hA (show (103 : Nat) ≠ 9 by decide))).trans (hu_k hq5 h0)⟩ (fun h4 wz => ?_)
  obtain ⟨f1, f2, f3⟩ := wz
  refine aw_ald0 X dX7_init_15 rfl ?_
  refine aw_new X nw_X7_7 dX7_init_16 rfl (fun q16 hq16 => ?_)
  refine aw_dup X dX7_init_19 rfl rfl ?_
  refine aw_callI X dX7_init_20 rfl (k_Jx4a65c_init_da8c8 X.1 htg hu_s) cmJx4a65c_init_da8c8 ml_X7_9 rfl rfl (Nat.le_of_ble_eq_true rfl) ⟨Nat.le_of_ble_eq_true rfl, Nat.le_of_ble_eq_true rfl⟩ (aw_rv ?_)
  rw [hu_hu]
  have hA : hu h4 q16 (tg, oLst 0 (G.2.2 0) 0) a = some (tg, .inr (9, [.int 0, .ref q5, .null, .null, .int 0, .int 0, .int 0, .int 0, .int 0, .int 0, .int 0, .int 0, .int 0, .int 0, .int 0, .int 0, .int 0, .int 0, .long 0])) := hu_k hq16 f1
  refine aw_putF X fd_X7_16 fi_X7_2 hnm dX7_init_23 rfl htg hA rfl rfl (Nat.le_of_ble_eq_true rfl) ?_
  refine aw_genP (Pr := fun h5 => h5 a = some (tg, .inr (9, [.int 0, .ref q5, .ref q16, .null, .int 0, .int 0, .int 0, .int 0, .int 0, .int 0, .int 0, .int 0, .int 0, .int 0, .int 0, .int 0, .int 0, .int 0, .long 0])) ∧ h5 q5 = some (tg, oLst 0 (G.2.2 0) 0) ∧ h5 q16 = some (tg, oLst 0 (G.2.2 0) 0) ∧ h5 (G.2.2 0) = some (t0, oArr 0 (fun _ => none))) ⟨hu_s, (hu_n (kk_ne (hu_k hq16 f2) hA (show (1 : Nat) ≠ 9 by decide))).trans (hu_k hq16 f2), (hu_n (kk_ne hu_s hA (show (1 : Nat) ≠ 9 by decide))).trans hu_s, (hu_n (kk_ne (hu_k hq16 f3) hA (show (103 : Nat) ≠ 9 by decide))).trans (hu_k hq16 f3)⟩ (fun h5 wz => ?_)
  obtain ⟨g1, g2, g3, g4⟩ := wz
  have n516 : q5 ≠ q16 := nn_ne f2 hq16
  refine aw_ald0 X dX7_init_26 rfl ?_
  refine aw_new X nw_X7_7 dX7_init_27 rfl (fun q27 hq27 => ?_)
  refine aw_dup X dX7_init_30 rfl rfl ?_
  refine aw_callI X dX7_init_31 rfl (k_Jx4a65c_init_da8c8 X.1 htg hu_s) cmJx4a65c_init_da8c8 ml_X7_9 rfl rfl (Nat.le_of_ble_eq_true rfl) ⟨Nat.le_of_ble_eq_true rfl, Nat.le_of_ble_eq_true rfl⟩ (aw_rv ?_)
  rw [hu_hu]
  have hA : hu h5 q27 (tg, oLst 0 (G.2.2 0) 0) a = some (tg, .inr (9, [.int 0, .ref q5, .ref q16, .null, .int 0, .int 0, .int 0, .int 0, .int 0, .int 0, .int 0, .int 0, .int 0, .int 0, .int 0, .int 0, .int 0, .int 0, .long 0])) := hu_k hq27 g1
  refine aw_putF X fd_X7_19 fi_X7_3 hnm dX7_init_34 rfl htg hA rfl rfl (Nat.le_of_ble_eq_true rfl) ?_
  refine aw_genP (Pr := fun h6 => h6 a = some (tg, .inr (9, [.int 0, .ref q5, .ref q16, .ref q27, .int 0, .int 0, .int 0, .int 0, .int 0, .int 0, .int 0, .int 0, .int 0, .int 0, .int 0, .int 0, .int 0, .int 0, .long 0])) ∧ h6 q5 = some (tg, oLst 0 (G.2.2 0) 0) ∧ h6 q16 = some (tg, oLst 0 (G.2.2 0) 0) ∧ h6 q27 = some (tg, oLst 0 (G.2.2 0) 0) ∧ h6 (G.2.2 0) = some (t0, oArr 0 (fun _ => none))) ⟨hu_s, (hu_n (kk_ne (hu_k hq27 g2) hA (show (1 : Nat) ≠ 9 by decide))).trans (hu_k hq27 g2), (hu_n (kk_ne (hu_k hq27 g3) hA (show (1 : Nat) ≠ 9 by decide))).trans (hu_k hq27 g3), (hu_n (kk_ne hu_s hA (show (1 : Nat) ≠ 9 by decide))).trans hu_s, (hu_n (kk_ne (hu_k hq27 g4) hA (show (103 : Nat) ≠ 9 by decide))).trans (hu_k hq27 g4)⟩ (fun h6 wz => ?_)
  obtain ⟨k1, k2, k3, k4, k5⟩ := wz
  have n527 : q5 ≠ q27 := nn_ne g2 hq27
  have n1627 : q16 ≠ q27 := nn_ne g3 hq27
  refine aw_ald0 X dX7_init_37 rfl ?_
  refine aw_bipush X (50) dX7_init_38 (by decide) rfl ?_
  refine aw_put X fd_X7_22 fw_X7_5 dX7_init_40 rfl htg k1 rfl rfl (Nat.le_of_ble_eq_true rfl) ?_
  refine aw_ald0 X dX7_init_43 rfl ?_
  refine aw_iconst X (-1) dX7_init_44 (by decide) rfl ?_
  refine aw_put X fd_X7_26 fw_X7_7 dX7_init_45 rfl htg hu_s rfl rfl (Nat.le_of_ble_eq_true rfl) ?_
  refine aw_ald0 X dX7_init_48 rfl ?_
  refine aw_iconst X (5) dX7_init_49 (by decide) rfl ?_
  refine aw_put X fd_X7_29 fw_X7_12 dX7_init_50 rfl htg hu_s rfl rfl (Nat.le_of_ble_eq_true rfl) ?_
  refine aw_ald0 X dX7_init_53 rfl ?_
  refine aw_bipush X (20) dX7_init_54 (by decide) rfl ?_
  refine aw_put X fd_X7_32 fw_X7_13 dX7_init_56 rfl htg hu_s rfl rfl (Nat.le_of_ble_eq_true rfl) ?_
  exact aw_vret X hret dX7_init_59 (⟨rfl, (0, 0, 0, (q5, G.2.2 0, 0, 0, fun _ => none, fun _ => 0), (q27, G.2.2 0, 0, 0, fun _ => none, fun _ => 0), (q16, G.2.2 0, 0, 0, fun _ => none, fun _ => 0)), by
    simp only [hu_hu]
    have na : ∀ b c, h6 b = some c → kd c.2 ≠ 9 → b ≠ a := fun b c e x => kk_ne e k1 x
    have li : ∀ (c9 : AC) (q : Nat), h6 q = some (tg, oLst 0 (G.2.2 0) 0) → LI G (hu h6 a c9) tg q 0 (fun _ => none) (G.2.2 0) 0 0 := fun c9 q e => ⟨(hu_n (na _ _ e (show (1 : Nat) ≠ 9 by decide))).trans e, kk_ne e k5 (show (1 : Nat) ≠ 103 by decide), Nat.le_refl _, Or.inl ⟨rfl, rfl, fun _ => rfl, t0, (hu_n (na _ _ k5 (show (103 : Nat) ≠ 9 by decide))).trans k5⟩⟩
    exact ⟨hu_s, ⟨li _ q5 k2, li _ q27 k4, li _ q16 k3⟩, ⟨fun k hk => absurd hk (Nat.not_lt_zero _), fun k hk => absurd hk (Nat.not_lt_zero _), fun k hk => absurd hk (Nat.not_lt_zero _)⟩, by decide, ⟨fun j k hj => absurd hj (Nat.not_lt_zero _), fun j k hj => absurd hj (Nat.not_lt_zero _), fun j k hj => absurd hj (Nat.not_lt_zero _), fun j k hj => absurd hj (Nat.not_lt_zero _), fun j k hj => absurd hj (Nat.not_lt_zero _)⟩, ⟨n527, n516, n1627.symm⟩, ⟨fun z => absurd rfl z, fun z => absurd rfl z, fun z => absurd rfl z⟩⟩⟩)
