/-! THE MODEL'S GRIPS -/
theorem gripS_no {sd : Int32} {r : Nat → Int32} {F : Nat → Nat → Int32} {n : Nat} (h0 : ¬ r 3 = 0) (h1 : ¬ r 3 = 1) : gripS sd r F n = -1 := by
  unfold gripS
  rw [if_neg h0, if_neg h1]
theorem gripS_b0 {sd : Int32} {r : Nat → Int32} {F : Nat → Nat → Int32} {n : Nat} (h0 : r 3 = 0) (hs : sd = 0) : gripS sd r F n = if freeP F n 2 ∧ figAt F n 0 = -1 then 2 else -1 := by
  subst hs
  unfold gripS
  rw [if_pos h0]
  rfl
theorem gripS_b1 {sd : Int32} {r : Nat → Int32} {F : Nat → Nat → Int32} {n : Nat} (h0 : r 3 = 0) (hs : sd = 1) : gripS sd r F n = if freeP F n 3 ∧ figAt F n 9 = -1 then 3 else -1 := by
  subst hs
  unfold gripS
  rw [if_pos h0]
  rfl
theorem gripS_pl {sd : Int32} {r : Nat → Int32} {F : Nat → Nat → Int32} {n : Nat} (h1 : r 3 = 1) : gripS sd r F n = if reachP 2 (r 4) ∧ freeP F n 2 then 2 else if reachP 3 (r 4) ∧ freeP F n 3 then 3 else -1 := by
  unfold gripS
  rw [if_neg (by rw [h1]; decide), if_pos h1]
theorem IV.planted {σ : NS} (hv : IV σ) {k : Nat} (hk : k < σ.nf) (h0 : ¬ σ.F k 3 = 0) (h2 : σ.F k 3 < 2) : σ.F k 3 = 1 ∧ (0 ≤ σ.F k 4 ∧ σ.F k 4 ≤ 9) := by
  have h9 := (hv.2.2.2.1 k hk).2.2.2
  rcases h9 with h9 | h9 | h9
  · exact absurd h9.1 h0
  · exact ⟨h9.1, h9.2.1⟩
  · rcases h9.1 with e | e <;> (rw [e] at h2; exact absurd h2 (by decide))

set_option maxHeartbeats 4000000 in
set_option maxRecDepth 100000 in
theorem k_X7_gripper {l : Launch} {s0 : State} {a0 : Array Value} {G : GG} (X : CX l s0 a0 G) {h : AH} {tg mo : Nat} {A : KA} {t : Int32} {sm : Int64} {σ : NS} (htg : tg ≠ 0) (w : MoW G h tg mo A t sm σ) (hv : IV σ) {k : Nat} {x : Int32} (hx : x = nI k) (hk : k < σ.nf)  : Con l s0 G yX7_gripper cX7_gripper 4 (some .int) 4 2 8 tg [.ref mo, .int x] h (RE (.int (gripS (sdS σ k) (σ.F k) σ.F σ.nf)) h) := by
  refine Con.of X (by decide +kernel) [some (.ref mo), some (.int x), none, none] rfl (Nat.le_of_ble_eq_true rfl) (fun p e s m below meth c X hnm hret => ?_)
  have w0 := w
  obtain ⟨hmo, ⟨hlp, hls, hlf⟩, ⟨hP, hS, hF⟩, ⟨hn8, hn10, hn12⟩, hdd⟩ := id w
  refine aw_ald0 X dX7_gripper_0 rfl ?_
  refine aw_get X fd_X7_16 dX7_gripper_1 rfl hmo rfl ?_
  refine aw_ild1 X dX7_gripper_4 rfl ?_
  refine aw_callV X dX7_gripper_5 rfl (k_lget X.1 hlf hx hk (hF k hk).1) cmJx4a65c_get_915e3 ml_X7_48 rfl hlf.1 rfl rfl (Nat.le_of_ble_eq_true rfl) ⟨Nat.le_of_ble_eq_true rfl, Nat.le_of_ble_eq_true rfl⟩ (aw_rs ?_)
  refine aw_castA X dX7_gripper_8 rfl (kd := 0) (by decide) cc_X7_52 (hF k hk).2 ?_
  refine aw_ast2 X dX7_gripper_11 rfl (by decide) rfl ?_
  refine aw_ald2 X dX7_gripper_12 rfl ?_
  refine aw_iconst X (3) dX7_gripper_13 (by decide) rfl ?_
  refine aw_iald X (3) dX7_gripper_14 rfl (hF k hk).2 rfl (by decide) (by decide) ?_
  refine aw_iconst X (2) dX7_gripper_15 (by decide) rfl ?_
  refine aw_icmp_lt (n2 := 21) X dX7_gripper_16 rfl rfl (fun c16 => ?_) (fun c16 => ?_)
  · refine aw_ald2 X dX7_gripper_21 rfl ?_
    refine aw_iconst X (3) dX7_gripper_22 (by decide) rfl ?_
    refine aw_iald X (3) dX7_gripper_23 rfl (hF k hk).2 rfl (by decide) (by decide) ?_
    refine aw_if_ne (n2 := 79) X dX7_gripper_24 rfl rfl (fun c24 => ?_) (fun c24 => ?_)
    · have hp := hv.planted hk c24 c16
      have hp3 := hp.1
      have hp4 := hp.2
      refine aw_iconst X (2) dX7_gripper_79 (by decide) rfl ?_
      refine aw_ist3 X dX7_gripper_80 rfl (by decide) rfl ?_
      refine aw_ild3 X dX7_gripper_81 rfl ?_
      refine aw_iconst X (3) dX7_gripper_82 (by decide) rfl ?_
      refine aw_icmp_gt (n2 := 112) X dX7_gripper_83 rfl rfl (fun c83 => absurd c83 (by decide)) (fun c83 => ?_)
      refine aw_ald0 X dX7_gripper_86 rfl ?_
      refine aw_ild3 X dX7_gripper_87 rfl ?_
      refine aw_callV X dX7_gripper_88 rfl (k_X7_isFree X.1 htg w0 2) cmX7_isFree ml_X7_123 rfl w0.1 rfl rfl (Nat.le_of_ble_eq_true rfl) ⟨Nat.le_of_ble_eq_true rfl, Nat.le_of_ble_eq_true rfl⟩ (fun r h2 hq hf => ?_)
      obtain ⟨rfl, hxA⟩ := hq
      have w2 := w0.ext hxA
      refine aw_if_eq (n2 := 106) X dX7_gripper_91 rfl rfl (fun c91 => ?_) (fun c91 => ?_)
      · refine aw_iinc3 X (1) dX7_gripper_106 (by decide) rfl (by decide) rfl ?_
        refine aw_goto (n := 81) X dX7_gripper_109 rfl ?_
        have n2 : ¬ (reachP 2 (σ.F k 4) ∧ freeP σ.F σ.nf 2) := fun q => bI_n c91 q.2
        refine aw_ild3 X dX7_gripper_81 rfl ?_
        refine aw_iconst X (3) dX7_gripper_82 (by decide) rfl ?_
        refine aw_icmp_gt (n2 := 112) X dX7_gripper_83 rfl rfl (fun c83 => absurd c83 (by decide)) (fun c83 => ?_)
        refine aw_ald0 X dX7_gripper_86 rfl ?_
        refine aw_ild3 X dX7_gripper_87 rfl ?_
        refine aw_callV X dX7_gripper_88 rfl (k_X7_isFree X.1 htg w2 (2 + 1)) cmX7_isFree ml_X7_123 rfl w2.1 rfl rfl (Nat.le_of_ble_eq_true rfl) ⟨Nat.le_of_ble_eq_true rfl, Nat.le_of_ble_eq_true rfl⟩ (fun r h2 hq hf => ?_)
        obtain ⟨rfl, hxB⟩ := hq
        have w3 := w2.ext hxB
        refine aw_if_eq (n2 := 106) X dX7_gripper_91 rfl rfl (fun c91 => ?_) (fun c91 => ?_)
        · refine aw_iinc3 X (1) dX7_gripper_106 (by decide) rfl (by decide) rfl ?_
          refine aw_goto (n := 81) X dX7_gripper_109 rfl ?_
          refine aw_ild3 X dX7_gripper_81 rfl ?_
          refine aw_iconst X (3) dX7_gripper_82 (by decide) rfl ?_
          refine aw_icmp_gt (n2 := 112) X dX7_gripper_83 rfl rfl (fun c83 => ?_) (fun c83 => absurd (by decide) c83)
          refine aw_iconst X (-1) dX7_gripper_112 (by decide) rfl ?_
          exact aw_iret X hret rfl dX7_gripper_113 (⟨by rw [gripS_pl hp3, if_neg n2, if_neg (fun q => bI_n c91 q.2)], fun a c e => hxB a c (hxA a c e)⟩)
        · refine aw_ild3 X dX7_gripper_94 rfl ?_
          refine aw_ald2 X dX7_gripper_95 rfl ?_
          refine aw_iconst X (4) dX7_gripper_96 (by decide) rfl ?_
          refine aw_iald X (4) dX7_gripper_97 rfl (w3.2.2.1.2.2 k hk).2 rfl (by decide) (by decide) ?_
          refine aw_callS X dX7_gripper_98 rfl (k_X7_reaches X.1 _ _) cmX7_reaches ml_X7_129 rfl rfl (Nat.le_of_ble_eq_true rfl) ⟨Nat.le_of_ble_eq_true rfl, Nat.le_of_ble_eq_true rfl⟩ (aw_rs ?_)
          refine aw_if_eq (n2 := 106) X dX7_gripper_101 rfl rfl (fun c101 => ?_) (fun c101 => ?_)
          · refine aw_iinc3 X (1) dX7_gripper_106 (by decide) rfl (by decide) rfl ?_
            refine aw_goto (n := 81) X dX7_gripper_109 rfl ?_
            refine aw_ild3 X dX7_gripper_81 rfl ?_
            refine aw_iconst X (3) dX7_gripper_82 (by decide) rfl ?_
            refine aw_icmp_gt (n2 := 112) X dX7_gripper_83 rfl rfl (fun c83 => ?_) (fun c83 => absurd (by decide) c83)
            refine aw_iconst X (-1) dX7_gripper_112 (by decide) rfl ?_
            exact aw_iret X hret rfl dX7_gripper_113 (⟨by rw [gripS_pl hp3, if_neg n2, if_neg (fun q => bI_n c101 ((reach_iff hp4).mpr q.1))], fun a c e => hxB a c (hxA a c e)⟩)
          · refine aw_ild3 X dX7_gripper_104 rfl ?_
            exact aw_iret X hret rfl dX7_gripper_105 (⟨by rw [gripS_pl hp3, if_neg n2, if_pos ⟨(reach_iff hp4).mp (bI_y c101), bI_y c91⟩]; rfl, fun a c e => hxB a c (hxA a c e)⟩)
      · refine aw_ild3 X dX7_gripper_94 rfl ?_
        refine aw_ald2 X dX7_gripper_95 rfl ?_
        refine aw_iconst X (4) dX7_gripper_96 (by decide) rfl ?_
        refine aw_iald X (4) dX7_gripper_97 rfl (w2.2.2.1.2.2 k hk).2 rfl (by decide) (by decide) ?_
        refine aw_callS X dX7_gripper_98 rfl (k_X7_reaches X.1 _ _) cmX7_reaches ml_X7_129 rfl rfl (Nat.le_of_ble_eq_true rfl) ⟨Nat.le_of_ble_eq_true rfl, Nat.le_of_ble_eq_true rfl⟩ (aw_rs ?_)
        refine aw_if_eq (n2 := 106) X dX7_gripper_101 rfl rfl (fun c101 => ?_) (fun c101 => ?_)
        · refine aw_iinc3 X (1) dX7_gripper_106 (by decide) rfl (by decide) rfl ?_
          refine aw_goto (n := 81) X dX7_gripper_109 rfl ?_
          have n2 : ¬ (reachP 2 (σ.F k 4) ∧ freeP σ.F σ.nf 2) := fun q => bI_n c101 ((reach_iff hp4).mpr q.1)
          refine aw_ild3 X dX7_gripper_81 rfl ?_
          refine aw_iconst X (3) dX7_gripper_82 (by decide) rfl ?_
          refine aw_icmp_gt (n2 := 112) X dX7_gripper_83 rfl rfl (fun c83 => absurd c83 (by decide)) (fun c83 => ?_)
          refine aw_ald0 X dX7_gripper_86 rfl ?_
          refine aw_ild3 X dX7_gripper_87 rfl ?_
          refine aw_callV X dX7_gripper_88 rfl (k_X7_isFree X.1 htg w2 (2 + 1)) cmX7_isFree ml_X7_123 rfl w2.1 rfl rfl (Nat.le_of_ble_eq_true rfl) ⟨Nat.le_of_ble_eq_true rfl, Nat.le_of_ble_eq_true rfl⟩ (fun r h2 hq hf => ?_)
          obtain ⟨rfl, hxB⟩ := hq
          have w3 := w2.ext hxB
          refine aw_if_eq (n2 := 106) X dX7_gripper_91 rfl rfl (fun c91 => ?_) (fun c91 => ?_)
          · refine aw_iinc3 X (1) dX7_gripper_106 (by decide) rfl (by decide) rfl ?_
            refine aw_goto (n := 81) X dX7_gripper_109 rfl ?_
            refine aw_ild3 X dX7_gripper_81 rfl ?_
            refine aw_iconst X (3) dX7_gripper_82 (by decide) rfl ?_
            refine aw_icmp_gt (n2 := 112) X dX7_gripper_83 rfl rfl (fun c83 => ?_) (fun c83 => absurd (by decide) c83)
            refine aw_iconst X (-1) dX7_gripper_112 (by decide) rfl ?_
            exact aw_iret X hret rfl dX7_gripper_113 (⟨by rw [gripS_pl hp3, if_neg n2, if_neg (fun q => bI_n c91 q.2)], fun a c e => hxB a c (hxA a c e)⟩)
          · refine aw_ild3 X dX7_gripper_94 rfl ?_
            refine aw_ald2 X dX7_gripper_95 rfl ?_
            refine aw_iconst X (4) dX7_gripper_96 (by decide) rfl ?_
            refine aw_iald X (4) dX7_gripper_97 rfl (w3.2.2.1.2.2 k hk).2 rfl (by decide) (by decide) ?_
            refine aw_callS X dX7_gripper_98 rfl (k_X7_reaches X.1 _ _) cmX7_reaches ml_X7_129 rfl rfl (Nat.le_of_ble_eq_true rfl) ⟨Nat.le_of_ble_eq_true rfl, Nat.le_of_ble_eq_true rfl⟩ (aw_rs ?_)
            refine aw_if_eq (n2 := 106) X dX7_gripper_101 rfl rfl (fun c101 => ?_) (fun c101 => ?_)
            · refine aw_iinc3 X (1) dX7_gripper_106 (by decide) rfl (by decide) rfl ?_
              refine aw_goto (n := 81) X dX7_gripper_109 rfl ?_
              refine aw_ild3 X dX7_gripper_81 rfl ?_
              refine aw_iconst X (3) dX7_gripper_82 (by decide) rfl ?_
              refine aw_icmp_gt (n2 := 112) X dX7_gripper_83 rfl rfl (fun c83 => ?_) (fun c83 => absurd (by decide) c83)
              refine aw_iconst X (-1) dX7_gripper_112 (by decide) rfl ?_
              exact aw_iret X hret rfl dX7_gripper_113 (⟨by rw [gripS_pl hp3, if_neg n2, if_neg (fun q => bI_n c101 ((reach_iff hp4).mpr q.1))], fun a c e => hxB a c (hxA a c e)⟩)
            · refine aw_ild3 X dX7_gripper_104 rfl ?_
              exact aw_iret X hret rfl dX7_gripper_105 (⟨by rw [gripS_pl hp3, if_neg n2, if_pos ⟨(reach_iff hp4).mp (bI_y c101), bI_y c91⟩]; rfl, fun a c e => hxB a c (hxA a c e)⟩)
        · refine aw_ild3 X dX7_gripper_104 rfl ?_
          exact aw_iret X hret rfl dX7_gripper_105 (⟨by rw [gripS_pl hp3, if_pos ⟨(reach_iff hp4).mp (bI_y c101), bI_y c91⟩], hxA⟩)
    · have ho := (hv.2.2.2.1 k hk).1
      obtain ⟨hok, hol⟩ := nI_iN ho.1 ho.2 (by omega)
      have hs01 := (hv.2.1 _ hol).1
      refine aw_iconst X (2) dX7_gripper_27 (by decide) rfl ?_
      refine aw_ald0 X dX7_gripper_28 rfl ?_
      refine aw_get X fd_X7_10 dX7_gripper_29 rfl hmo rfl ?_
      refine aw_ald2 X dX7_gripper_32 rfl ?_
      refine aw_iconst X (0) dX7_gripper_33 (by decide) rfl ?_
      refine aw_iald X (0) dX7_gripper_34 rfl (hF k hk).2 rfl (by decide) (by decide) ?_
      refine aw_callV X dX7_gripper_35 rfl (k_lget X.1 hlp hok hol (hP _ hol).1) cmJx4a65c_get_915e3 ml_X7_48 rfl hlp.1 rfl rfl (Nat.le_of_ble_eq_true rfl) ⟨Nat.le_of_ble_eq_true rfl, Nat.le_of_ble_eq_true rfl⟩ (aw_rs ?_)
      rcases hs01 with hsd | hsd
      · skip
        refine aw_castA X dX7_gripper_38 rfl (kd := 0) (by decide) cc_X7_52 (hP _ hol).2 ?_
        refine aw_iconst X (0) dX7_gripper_41 (by decide) rfl ?_
        refine aw_iald X (0) dX7_gripper_42 rfl (hP _ hol).2 rfl (by decide) (by decide) ?_
        refine aw_iadd X dX7_gripper_43 rfl ?_
        rw [show (2 : Int32) + σ.P (iN (σ.F k 0)) 0 = 2 by rw [hsd]; decide]
        refine aw_ist3 X dX7_gripper_44 rfl (by decide) rfl ?_
        refine aw_ald0 X dX7_gripper_45 rfl ?_
        refine aw_ild3 X dX7_gripper_46 rfl ?_
        refine aw_callV X dX7_gripper_47 rfl (k_X7_isFree X.1 htg w0 2) cmX7_isFree ml_X7_123 rfl w0.1 rfl rfl (Nat.le_of_ble_eq_true rfl) ⟨Nat.le_of_ble_eq_true rfl, Nat.le_of_ble_eq_true rfl⟩ (fun r h2 hq hf => ?_)
        obtain ⟨rfl, hxA⟩ := hq
        have w2 := w0.ext hxA
        refine aw_if_eq (n2 := 77) X dX7_gripper_50 rfl rfl (fun c50 => ?_) (fun c50 => ?_)
        · refine aw_iconst X (-1) dX7_gripper_77 (by decide) rfl ?_
          exact aw_iret X hret rfl dX7_gripper_78 (⟨by rw [gripS_b0 (sd := sdS σ k) c24 hsd, if_neg (fun q => bI_n c50 q.1)], hxA⟩)
        · refine aw_ald0 X dX7_gripper_53 rfl ?_
          refine aw_ild3 X dX7_gripper_54 rfl ?_
          refine aw_iconst X (2) dX7_gripper_55 (by decide) rfl ?_
          refine aw_icmp_ne (n2 := 63) X dX7_gripper_56 rfl rfl (fun c56 => absurd rfl c56) (fun c56 => ?_)
          refine aw_iconst X (0) dX7_gripper_59 (by decide) rfl ?_
          refine aw_goto (n := 65) X dX7_gripper_60 rfl ?_
          refine aw_iconst X (-1) dX7_gripper_65 (by decide) rfl ?_
          refine aw_callV X dX7_gripper_66 rfl (k_X7_at X.1 w2 0) cmX7_at ml_X7_126 rfl w2.1 rfl rfl (Nat.le_of_ble_eq_true rfl) ⟨Nat.le_of_ble_eq_true rfl, Nat.le_of_ble_eq_true rfl⟩ (aw_rs ?_)
          refine aw_iconst X (-1) dX7_gripper_69 (by decide) rfl ?_
          refine aw_icmp_ne (n2 := 77) X dX7_gripper_70 rfl rfl (fun c70 => ?_) (fun c70 => ?_)
          · refine aw_iconst X (-1) dX7_gripper_77 (by decide) rfl ?_
            exact aw_iret X hret rfl dX7_gripper_78 (⟨by rw [gripS_b0 (sd := sdS σ k) c24 hsd, if_neg (fun q => c70 ((hv.at (show (0 : Int32) ≤ 0 by decide)).trans q.2))], hxA⟩)
          · refine aw_ild3 X dX7_gripper_73 rfl ?_
            refine aw_goto (n := 78) X dX7_gripper_74 rfl ?_
            exact aw_iret X hret rfl dX7_gripper_78 (⟨by rw [gripS_b0 (sd := sdS σ k) c24 hsd, if_pos ⟨bI_y c50, (hv.at (show (0 : Int32) ≤ 0 by decide)).symm.trans c70⟩], hxA⟩)
      · skip
        refine aw_castA X dX7_gripper_38 rfl (kd := 0) (by decide) cc_X7_52 (hP _ hol).2 ?_
        refine aw_iconst X (0) dX7_gripper_41 (by decide) rfl ?_
        refine aw_iald X (0) dX7_gripper_42 rfl (hP _ hol).2 rfl (by decide) (by decide) ?_
        refine aw_iadd X dX7_gripper_43 rfl ?_
        rw [show (2 : Int32) + σ.P (iN (σ.F k 0)) 0 = 3 by rw [hsd]; decide]
        refine aw_ist3 X dX7_gripper_44 rfl (by decide) rfl ?_
        refine aw_ald0 X dX7_gripper_45 rfl ?_
        refine aw_ild3 X dX7_gripper_46 rfl ?_
        refine aw_callV X dX7_gripper_47 rfl (k_X7_isFree X.1 htg w0 3) cmX7_isFree ml_X7_123 rfl w0.1 rfl rfl (Nat.le_of_ble_eq_true rfl) ⟨Nat.le_of_ble_eq_true rfl, Nat.le_of_ble_eq_true rfl⟩ (fun r h2 hq hf => ?_)
        obtain ⟨rfl, hxA⟩ := hq
        have w2 := w0.ext hxA
        refine aw_if_eq (n2 := 77) X dX7_gripper_50 rfl rfl (fun c50 => ?_) (fun c50 => ?_)
        · refine aw_iconst X (-1) dX7_gripper_77 (by decide) rfl ?_
          exact aw_iret X hret rfl dX7_gripper_78 (⟨by rw [gripS_b1 (sd := sdS σ k) c24 hsd, if_neg (fun q => bI_n c50 q.1)], hxA⟩)
        · refine aw_ald0 X dX7_gripper_53 rfl ?_
          refine aw_ild3 X dX7_gripper_54 rfl ?_
          refine aw_iconst X (2) dX7_gripper_55 (by decide) rfl ?_
          refine aw_icmp_ne (n2 := 63) X dX7_gripper_56 rfl rfl (fun c56 => ?_) (fun c56 => absurd c56 (by decide))
          refine aw_bipush X (9) dX7_gripper_63 (by decide) rfl ?_
          refine aw_iconst X (-1) dX7_gripper_65 (by decide) rfl ?_
          refine aw_callV X dX7_gripper_66 rfl (k_X7_at X.1 w2 9) cmX7_at ml_X7_126 rfl w2.1 rfl rfl (Nat.le_of_ble_eq_true rfl) ⟨Nat.le_of_ble_eq_true rfl, Nat.le_of_ble_eq_true rfl⟩ (aw_rs ?_)
          refine aw_iconst X (-1) dX7_gripper_69 (by decide) rfl ?_
          refine aw_icmp_ne (n2 := 77) X dX7_gripper_70 rfl rfl (fun c70 => ?_) (fun c70 => ?_)
          · refine aw_iconst X (-1) dX7_gripper_77 (by decide) rfl ?_
            exact aw_iret X hret rfl dX7_gripper_78 (⟨by rw [gripS_b1 (sd := sdS σ k) c24 hsd, if_neg (fun q => c70 ((hv.at (show (0 : Int32) ≤ 9 by decide)).trans q.2))], hxA⟩)
          · refine aw_ild3 X dX7_gripper_73 rfl ?_
            refine aw_goto (n := 78) X dX7_gripper_74 rfl ?_
            exact aw_iret X hret rfl dX7_gripper_78 (⟨by rw [gripS_b1 (sd := sdS σ k) c24 hsd, if_pos ⟨bI_y c50, (hv.at (show (0 : Int32) ≤ 9 by decide)).symm.trans c70⟩], hxA⟩)
  · refine aw_iconst X (-1) dX7_gripper_19 (by decide) rfl ?_
    exact aw_iret X hret rfl dX7_gripper_20 (⟨by rw [gripS_no (fun q => c16 (by rw [q]; decide)) (fun q => c16 (by rw [q]; decide))], fun a c e => e⟩)
