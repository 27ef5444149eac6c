/-! THE NIGHT'S START -/
section GENP
variable {p : Program} {l : Launch} {e : Env} {R : Room} {s : State} {m : MethodId} {args : Array Value} {below : List Frame} {meth : Method} {c : Code} {Q : State → Prop} {s0 : State} {G : GG} {nL tg : Nat} {h0 h : AH} {bc bs n : Nat} {L : List (Option Value)} {st : List Value}
theorem aw_genP {Pr : AH → Prop} (w : Pr h) (k : ∀ h2 : AH, Pr h2 → AW p l e R s m args below meth c Q s0 G nL tg h0 h2 bc bs n L st) : AW p l e R s m args below meth c Q s0 G nL tg h0 h bc bs n L st := k h w
end GENP
theorem nn_ne {h : AH} {a q : Nat} {c : AC} (e : h a = some c) (hq : h q = none) : a ≠ q := fun z => by rw [z, hq] at e; cases e

set_option maxHeartbeats 4000000 in
set_option maxRecDepth 100000 in
theorem k_X6_init {l : Launch} {s0 : State} {a0 : Array Value} {G : GG} (X : CX l s0 a0 G) {h : AH} {a t0 tg : Nat} (htg : tg ≠ 0) (ha : h a = some (tg, .inr (8, [.null, .null, .null, .int 0, .int 0, .int 0, .int 0, .int 0, .int 0, .int 0]))) (h0 : h (G.2.2 0) = some (t0, oArr 0 (fun _ => none)))  : Con l s0 G yX6_init cX6_init 1 none 5 6 22 tg [.ref a] h (fun r h2 => none = r ∧ ∃ A, KelW G h2 tg a A ns0) := by
  refine Con.of X (by decide +kernel) [some (.ref a)] rfl (Nat.le_of_ble_eq_true rfl) (fun p e s m below meth c X hnm hret => ?_)
  refine aw_ald0 X dX6_init_0 rfl ?_
  refine aw_objInit X dX6_init_1 rfl ⟨ml_X6_1, oi_ok⟩ (Nat.le_of_ble_eq_true rfl) (Nat.le_of_ble_eq_true rfl) ?_
  refine aw_ald0 X dX6_init_4 rfl ?_
  refine aw_new X nw_X6_7 dX6_init_5 rfl (fun q5 hq5 => ?_)
  refine aw_dup X dX6_init_8 rfl rfl ?_
  refine aw_callIN X dX6_init_9 rfl (k_X3_init X.1 htg hu_s) cmX3_init mn_X6_9 rfl rfl (Nat.le_of_ble_eq_true rfl) ⟨Nat.le_of_ble_eq_true rfl, Nat.le_of_ble_eq_true rfl⟩ (fun r h2 hq hf => ?_)
  obtain ⟨rfl, q1, q2, hq1, hq2, hq12, rfl⟩ := hq
  have K1 : ∀ b c, h b = some c → hu (hu (hu (hu h q5 (tg, .inr (5, [.null, .null, .int 0, .int 0, .int 0]))) q1 (tg, oLst 0 (G.2.2 0) 0)) q2 (tg, oLst 0 (G.2.2 0) 0)) q5 (tg, .inr (5, [.ref q1, .ref q2, .int 0, .int 0, .int 0])) b = some c := fun b c e => (hu_n (nn_ne e hq5)).trans (hu_k ((hu_n hq12.symm).trans hq2) (hu_k hq1 (hu_k hq5 e)))
  have a5 : q5 ≠ a := (nn_ne ha hq5).symm
  have a1 : a ≠ q1 := nn_ne (hu_k hq5 ha) hq1
  have a2 : a ≠ q2 := nn_ne (hu_k hq5 ha) hq2
  have n51 : q1 ≠ q5 := fun z => by rw [z, hu_s] at hq1; cases hq1
  have n52 : q2 ≠ q5 := fun z => by rw [z, hu_s] at hq2; cases hq2
  refine aw_putF X fd_X6_10 fi_X6_0 hnm dX6_init_12 rfl htg (K1 _ _ ha) rfl rfl (Nat.le_of_ble_eq_true rfl) ?_
  refine aw_genP (Pr := fun h4 => h4 a = some (tg, .inr (8, [.ref q5, .null, .null, .int 0, .int 0, .int 0, .int 0, .int 0, .int 0, .int 0])) ∧ h4 q5 = some (tg, .inr (5, [.ref q1, .ref q2, .int 0, .int 0, .int 0])) ∧ h4 q1 = some (tg, oLst 0 (G.2.2 0) 0) ∧ h4 q2 = some (tg, oLst 0 (G.2.2 0) 0) ∧ h4 (G.2.2 0) = some (t0, oArr 0 (fun _ => none))) ⟨hu_s, (hu_n a5).trans hu_s, (hu_n a1.symm).trans ((hu_n n51).trans ((hu_n hq12).trans hu_s)), (hu_n a2.symm).trans ((hu_n n52).trans hu_s), (hu_n (fun z => by rw [z, ha] at h0; cases h0)).trans (K1 _ _ h0)⟩ (fun h4 wh4 => ?_)
  obtain ⟨f1, f2, f3, f4, f5⟩ := wh4
  have n12 := hq12
  refine aw_ald0 X dX6_init_15 rfl ?_
  refine aw_new X nw_X6_16 dX6_init_16 rfl (fun q16 hq16 => ?_)
  refine aw_dup X dX6_init_19 rfl rfl ?_
  refine aw_callIN X dX6_init_20 rfl (k_X5_init X.1 htg hu_s) cmX5_init mn_X6_18 rfl rfl (Nat.le_of_ble_eq_true rfl) ⟨Nat.le_of_ble_eq_true rfl, Nat.le_of_ble_eq_true rfl⟩ (fun r h2 hq hf => ?_)
  obtain ⟨rfl, q3, hq3, rfl⟩ := hq
  have n3 : q3 ≠ q16 := fun z => by rw [z, hu_s] at hq3; cases hq3
  have n13 : q3 ≠ q1 := (nn_ne (hu_k hq16 f3) hq3).symm
  have n23 : q3 ≠ q2 := (nn_ne (hu_k hq16 f4) hq3).symm
  refine aw_putF X fd_X6_19 fi_X6_1 hnm dX6_init_23 rfl htg ((hu_n (nn_ne f1 hq16)).trans (hu_k hq3 (hu_k hq16 f1))) rfl rfl (Nat.le_of_ble_eq_true rfl) ?_
  refine aw_genP (Pr := fun h5 => h5 a = some (tg, .inr (8, [.ref q5, .ref q16, .null, .int 0, .int 0, .int 0, .int 0, .int 0, .int 0, .int 0])) ∧ h5 q5 = some (tg, .inr (5, [.ref q1, .ref q2, .int 0, .int 0, .int 0])) ∧ h5 q1 = some (tg, oLst 0 (G.2.2 0) 0) ∧ h5 q2 = some (tg, oLst 0 (G.2.2 0) 0) ∧ h5 (G.2.2 0) = some (t0, oArr 0 (fun _ => none)) ∧ h5 q16 = some (tg, .inr (7, [.ref q3, .int 50, .int 0])) ∧ h5 q3 = some (tg, oLst 0 (G.2.2 0) 0)) ⟨hu_s, (hu_n (fun z => by rw [z, f1] at f2; cases f2)).trans ((hu_n (nn_ne f2 hq16)).trans (hu_k hq3 (hu_k hq16 f2))), (hu_n (fun z => by rw [z, f1] at f3; cases f3)).trans ((hu_n (nn_ne f3 hq16)).trans (hu_k hq3 (hu_k hq16 f3))), (hu_n (fun z => by rw [z, f1] at f4; cases f4)).trans ((hu_n (nn_ne f4 hq16)).trans (hu_k hq3 (hu_k hq16 f4))), (hu_n (fun z => by rw [z, f1] at f5; cases f5)).trans ((hu_n (nn_ne f5 hq16)).trans (hu_k hq3 (hu_k hq16 f5))), (hu_n (nn_ne f1 hq16).symm).trans hu_s, (hu_n (nn_ne (hu_k hq16 f1) hq3).symm).trans ((hu_n n3).trans hu_s)⟩ (fun h5 wh5 => ?_)
  obtain ⟨g1, g2, g3, g4, g5, g6, g7⟩ := wh5
  refine aw_ald0 X dX6_init_26 rfl ?_
  refine aw_new X nw_X6_23 dX6_init_27 rfl (fun q27 hq27 => ?_)
  refine aw_dup X dX6_init_30 rfl rfl ?_
  refine aw_callIN X dX6_init_31 rfl (k_X1_init X.1 htg hu_s) cmX1_init mn_X6_25 rfl rfl (Nat.le_of_ble_eq_true rfl) ⟨Nat.le_of_ble_eq_true rfl, Nat.le_of_ble_eq_true rfl⟩ (aw_rv ?_)
  rw [hu_hu]
  refine aw_putF X fd_X6_26 fi_X6_2 hnm dX6_init_34 rfl htg (hu_k hq27 g1) rfl rfl (Nat.le_of_ble_eq_true rfl) ?_
  refine aw_genP (Pr := fun h6 => h6 a = some (tg, .inr (8, [.ref q5, .ref q16, .ref q27, .int 0, .int 0, .int 0, .int 0, .int 0, .int 0, .int 0])) ∧ h6 q5 = some (tg, .inr (5, [.ref q1, .ref q2, .int 0, .int 0, .int 0])) ∧ h6 q1 = some (tg, oLst 0 (G.2.2 0) 0) ∧ h6 q2 = some (tg, oLst 0 (G.2.2 0) 0) ∧ h6 (G.2.2 0) = some (t0, oArr 0 (fun _ => none)) ∧ h6 q16 = some (tg, .inr (7, [.ref q3, .int 50, .int 0])) ∧ h6 q3 = some (tg, oLst 0 (G.2.2 0) 0) ∧ h6 q27 = some (tg, .inr (3, [.int (-1), .int 0, .int 0, .int 0, .int 0]))) ⟨hu_s, (hu_n (fun z => by rw [z, g1] at g2; cases g2)).trans (hu_k hq27 g2), (hu_n (fun z => by rw [z, g1] at g3; cases g3)).trans (hu_k hq27 g3), (hu_n (fun z => by rw [z, g1] at g4; cases g4)).trans (hu_k hq27 g4), (hu_n (fun z => by rw [z, g1] at g5; cases g5)).trans (hu_k hq27 g5), (hu_n (fun z => by rw [z, g1] at g6; cases g6)).trans (hu_k hq27 g6), (hu_n (fun z => by rw [z, g1] at g7; cases g7)).trans (hu_k hq27 g7), (hu_n (nn_ne g1 hq27).symm).trans hu_s⟩ (fun h6 wh6 => ?_)
  obtain ⟨k1, k2, k3, k4, k5, k6, k7, k8⟩ := wh6
  refine aw_ald0 X dX6_init_37 rfl ?_
  refine aw_iconst X (0) dX6_init_38 (by decide) rfl ?_
  refine aw_put X fd_X6_30 fw_X6_3 dX6_init_39 rfl htg k1 rfl rfl (Nat.le_of_ble_eq_true rfl) ?_
  refine aw_ald0 X dX6_init_42 rfl ?_
  refine aw_iconst X (0) dX6_init_43 (by decide) rfl ?_
  refine aw_put X fd_X6_34 fw_X6_4 dX6_init_44 rfl htg hu_s rfl rfl (Nat.le_of_ble_eq_true rfl) ?_
  refine aw_ald0 X dX6_init_47 rfl ?_
  refine aw_iconst X (5) dX6_init_48 (by decide) rfl ?_
  refine aw_put X fd_X6_37 fw_X6_5 dX6_init_49 rfl htg hu_s rfl rfl (Nat.le_of_ble_eq_true rfl) ?_
  refine aw_ald0 X dX6_init_52 rfl ?_
  refine aw_bipush X (20) dX6_init_53 (by decide) rfl ?_
  refine aw_put X fd_X6_40 fw_X6_6 dX6_init_55 rfl htg hu_s rfl rfl (Nat.le_of_ble_eq_true rfl) ?_
  refine aw_ald0 X dX6_init_58 rfl ?_
  refine aw_iconst X (0) dX6_init_59 (by decide) rfl ?_
  refine aw_put X fd_X6_43 fw_X6_7 dX6_init_60 rfl htg hu_s rfl rfl (Nat.le_of_ble_eq_true rfl) ?_
  refine aw_ald0 X dX6_init_63 rfl ?_
  refine aw_iconst X (0) dX6_init_64 (by decide) rfl ?_
  refine aw_put X fd_X6_46 fw_X6_8 dX6_init_65 rfl htg hu_s rfl rfl (Nat.le_of_ble_eq_true rfl) ?_
  refine aw_ald0 X dX6_init_68 rfl ?_
  refine aw_iconst X (0) dX6_init_69 (by decide) rfl ?_
  refine aw_put X fd_X6_49 fw_X6_9 dX6_init_70 rfl htg hu_s rfl rfl (Nat.le_of_ble_eq_true rfl) ?_
  exact aw_vret X hret dX6_init_73 (⟨rfl, (q5, q16, q27, (q1, G.2.2 0, 0, 0, fun _ => none, fun _ => 0), (q2, G.2.2 0, 0, 0, fun _ => none, fun _ => 0), (q3, G.2.2 0, 0, 0, fun _ => none, fun _ => 0)), by
    simp only [hu_hu]
    have na : ∀ b c, h6 b = some c → kd c.2 ≠ 8 → b ≠ a := fun b c e x => kk_ne e k1 x
    have li : ∀ q, h6 q = some (tg, oLst 0 (G.2.2 0) 0) → LI G (hu h6 a (tg, cKel (q5, q16, q27, (q1, G.2.2 0, 0, 0, fun _ => none, fun _ => 0), (q2, G.2.2 0, 0, 0, fun _ => none, fun _ => 0), (q3, G.2.2 0, 0, 0, fun _ => none, fun _ => 0)) ns0)) tg q 0 (fun _ => none) (G.2.2 0) 0 0 := fun q e => ⟨(hu_n (na _ _ e (show (1 : Nat) ≠ 8 by decide))).trans e, kk_ne e k5 (show (1 : Nat) ≠ 103 by decide), Nat.le_refl _, Or.inl ⟨rfl, rfl, fun _ => rfl, t0, (hu_n (na _ _ k5 (show (103 : Nat) ≠ 8 by decide))).trans k5⟩⟩
    exact ⟨hu_s, ⟨(hu_n (na _ _ k2 (show (5 : Nat) ≠ 8 by decide))).trans k2, li q1 k3, li q2 k4, fun k hk => absurd hk (Nat.not_lt_zero _), fun k hk => absurd hk (Nat.not_lt_zero _), by decide, by decide, fun j k hj _ _ => absurd hj (Nat.not_lt_zero _), n12, fun z => absurd rfl z⟩, ⟨(hu_n (na _ _ k6 (show (7 : Nat) ≠ 8 by decide))).trans k6, li q3 k7, fun k hk => absurd hk (Nat.not_lt_zero _), by decide, fun j k hj _ _ => absurd hj (Nat.not_lt_zero _)⟩, (hu_n (na _ _ k8 (show (3 : Nat) ≠ 8 by decide))).trans k8, n13, n23, fun z => absurd rfl z, fun z => absurd rfl z⟩⟩)
