/-! THE MODEL'S CALLS: tap, play -/
theorem beg_eq {r : Nat → Int32} (h2 : r 2 = 0) (h3 : r 3 = 0) (x : Int32) : upd (upd (upd (upd r 0 x) 1 1) 2 0) 3 0 = obeg r x := by
  unfold obeg
  rw [upd_id (r := upd (upd r 0 x) 1 1) (k := 2) (x := 0) h2, upd_id (r := upd (upd r 0 x) 1 1) (k := 3) (x := 0) h3]

set_option maxHeartbeats 4000000 in
set_option maxRecDepth 100000 in
theorem k_X7_tap {l : Launch} {s0 : State} {a0 : Array Value} {G : GG} (X : CX l s0 a0 G) {h : AH} {tg mo : Nat} {A : KA} {t : Int32} {sm : Int64} {σ : NS} (htg : tg ≠ 0) (w : MoW G h tg mo A t sm σ) (hv : IV σ) (x : Int32)  : Con l s0 G yX7_tap cX7_tap 4 (some .boolean) 4 0 0 tg [.ref mo, .int x] h (PoM G tg mo (sp_tap σ x)) := by
  refine Con.of X (by decide +kernel) [some (.ref mo), some (.int x), none, none] rfl (Nat.le_of_ble_eq_true rfl) (fun p e s m below meth c X hnm hret => ?_)
  have w0 := w
  obtain ⟨hmo, ⟨hlp, hls, hlf⟩, ⟨hP, hS, hF⟩, ⟨hn8, hn10, hn12⟩, hdd⟩ := id w
  refine aw_ald0 X dX7_tap_0 rfl ?_
  refine aw_ild1 X dX7_tap_1 rfl ?_
  refine aw_iconst X (0) dX7_tap_2 (by decide) rfl ?_
  refine aw_iconst X (3) dX7_tap_3 (by decide) rfl ?_
  refine aw_callS X dX7_tap_4 rfl (k_X7_is X.1 _ _ _) cmX7_is ml_X7_42 rfl rfl (Nat.le_of_ble_eq_true rfl) ⟨Nat.le_of_ble_eq_true rfl, Nat.le_of_ble_eq_true rfl⟩ (aw_rs ?_)
  refine aw_if_eq (n2 := 14) X dX7_tap_7 rfl rfl (fun c7 => ?_) (fun c7 => ?_)
  · refine aw_iconst X (1) dX7_tap_14 (by decide) rfl ?_
    refine aw_put X fd_X7_35 fw_X7_0 dX7_tap_15 rfl htg hmo rfl rfl (Nat.le_of_ble_eq_true rfl) ?_
    refine aw_genP (Pr := fun h3 => MoW G h3 tg mo A 1 sm σ) (w0.obj 1 sm σ.v) (fun h1 w1 => ?_)
    clear hmo hlp hls hlf hP hS hF hdd
    obtain ⟨hmo, ⟨hlp, hls, hlf⟩, ⟨hP, hS, hF⟩, -, hdd⟩ := id w1
    refine aw_ald0 X dX7_tap_18 rfl ?_
    refine aw_get X fd_X7_35 dX7_tap_19 rfl hmo rfl ?_
    refine aw_if_le (n2 := 27) X dX7_tap_22 rfl rfl (fun c22 => absurd c22 (by decide)) (fun c22 => ?_)
    refine aw_iconst X (0) dX7_tap_25 (by decide) rfl ?_
    exact aw_iret X hret rfl dX7_tap_26 (PoM.mk (k := 1) (σ2 := σ) (by unfold sp_tap; rw [if_pos (isN (bI_n c7))]) w1)
  · refine aw_iconst X (0) dX7_tap_10 (by decide) rfl ?_
    refine aw_goto (n := 15) X dX7_tap_11 rfl ?_
    refine aw_put X fd_X7_35 fw_X7_0 dX7_tap_15 rfl htg hmo rfl rfl (Nat.le_of_ble_eq_true rfl) ?_
    refine aw_genP (Pr := fun h3 => MoW G h3 tg mo A 0 sm σ) (w0.obj 0 sm σ.v) (fun h1 w1 => ?_)
    clear hmo hlp hls hlf hP hS hF hdd
    obtain ⟨hmo, ⟨hlp, hls, hlf⟩, ⟨hP, hS, hF⟩, -, hdd⟩ := id w1
    refine aw_ald0 X dX7_tap_18 rfl ?_
    refine aw_get X fd_X7_35 dX7_tap_19 rfl hmo rfl ?_
    refine aw_if_le (n2 := 27) X dX7_tap_22 rfl rfl (fun c22 => ?_) (fun c22 => absurd (by decide) c22)
    refine aw_ald0 X dX7_tap_27 rfl ?_
    refine aw_callV X dX7_tap_28 rfl (k_X7_on X.1 w1) cmX7_on ml_X7_155 rfl hmo rfl rfl (Nat.le_of_ble_eq_true rfl) ⟨Nat.le_of_ble_eq_true rfl, Nat.le_of_ble_eq_true rfl⟩ (aw_rs ?_)
    refine aw_ist2 X dX7_tap_31 rfl (by decide) rfl ?_
    refine aw_ild1 X dX7_tap_32 rfl ?_
    refine aw_if_ne (n2 := 57) X dX7_tap_33 rfl rfl (fun c33 => ?_) (fun c33 => ?_)
    · refine aw_ald0 X dX7_tap_57 rfl ?_
      refine aw_get X fd_X7_26 dX7_tap_58 rfl hmo rfl ?_
      refine aw_iconst X (-1) dX7_tap_61 (by decide) rfl ?_
      refine aw_icmp_eq (n2 := 69) X dX7_tap_62 rfl rfl (fun c62 => ?_) (fun c62 => ?_)
      · refine aw_iconst X (0) dX7_tap_69 (by decide) rfl ?_
        refine aw_ist3 X dX7_tap_70 rfl (by decide) rfl ?_
        skip
        refine aw_ild3 X dX7_tap_71 rfl ?_
        refine aw_if_ne (n2 := 88) X dX7_tap_72 rfl rfl (fun c72 => absurd rfl c72) (fun c72 => ?_)
        refine aw_ald0 X dX7_tap_75 rfl ?_
        refine aw_dup X dX7_tap_76 rfl rfl ?_
        refine aw_get X fd_X7_158 dX7_tap_77 rfl hmo rfl ?_
        refine aw_iconst X (1) dX7_tap_80 (by decide) rfl ?_
        refine aw_iadd X dX7_tap_81 rfl ?_
        refine aw_put X fd_X7_158 fw_X7_14 dX7_tap_82 rfl htg hmo rfl rfl (Nat.le_of_ble_eq_true rfl) ?_
        refine aw_goto (n := 132) X dX7_tap_85 rfl ?_
        refine aw_ild3 X dX7_tap_132 rfl ?_
        exact aw_iret X hret rfl dX7_tap_133 (PoM.mk (k := 0) (σ2 := σ.up 4 (σ.ms + 1)) (by unfold sp_tap; rw [if_neg (isY (bI_y c7)), if_neg c33, if_pos c62]) (by exact w1.obj 0 sm (upd σ.v 4 (σ.ms + 1))))
      · refine aw_iconst X (1) dX7_tap_65 (by decide) rfl ?_
        refine aw_goto (n := 70) X dX7_tap_66 rfl ?_
        refine aw_ist3 X dX7_tap_70 rfl (by decide) rfl ?_
        refine aw_ild3 X dX7_tap_71 rfl ?_
        refine aw_if_ne (n2 := 88) X dX7_tap_72 rfl rfl (fun c72 => ?_) (fun c72 => absurd c72 (by decide))
        refine aw_ild1 X dX7_tap_88 rfl ?_
        refine aw_if_le (n2 := 100) X dX7_tap_89 rfl rfl (fun c89 => absurd c89 (fun q => c33 (Int32.le_antisymm q (bI_y c7).1))) (fun c89 => ?_)
        refine aw_ald0 X dX7_tap_92 rfl ?_
        refine aw_ild1 X dX7_tap_93 rfl ?_
        refine aw_put X fd_X7_161 fw_X7_10 dX7_tap_94 rfl htg hmo rfl rfl (Nat.le_of_ble_eq_true rfl) ?_
        refine aw_goto (n := 132) X dX7_tap_97 rfl ?_
        refine aw_ild3 X dX7_tap_132 rfl ?_
        exact aw_iret X hret rfl dX7_tap_133 (PoM.mk (k := 0) (σ2 := σ.wO (upd σ.o 3 x)) (by unfold sp_tap; rw [if_neg (isY (bI_y c7)), if_neg c33, if_neg c62]) (by exact w1.objO 0 sm (upd σ.o 3 x)))
    · refine aw_ald0 X dX7_tap_36 rfl ?_
      refine aw_get X fd_X7_26 dX7_tap_37 rfl hmo rfl ?_
      refine aw_iconst X (-1) dX7_tap_40 (by decide) rfl ?_
      refine aw_icmp_ne (n2 := 53) X dX7_tap_41 rfl rfl (fun c41 => ?_) (fun c41 => ?_)
      · refine aw_iconst X (0) dX7_tap_53 (by decide) rfl ?_
        refine aw_goto (n := 70) X dX7_tap_54 rfl ?_
        refine aw_ist3 X dX7_tap_70 rfl (by decide) rfl ?_
        skip
        refine aw_ild3 X dX7_tap_71 rfl ?_
        refine aw_if_ne (n2 := 88) X dX7_tap_72 rfl rfl (fun c72 => absurd rfl c72) (fun c72 => ?_)
        refine aw_ald0 X dX7_tap_75 rfl ?_
        refine aw_dup X dX7_tap_76 rfl rfl ?_
        refine aw_get X fd_X7_158 dX7_tap_77 rfl hmo rfl ?_
        refine aw_iconst X (1) dX7_tap_80 (by decide) rfl ?_
        refine aw_iadd X dX7_tap_81 rfl ?_
        refine aw_put X fd_X7_158 fw_X7_14 dX7_tap_82 rfl htg hmo rfl rfl (Nat.le_of_ble_eq_true rfl) ?_
        refine aw_goto (n := 132) X dX7_tap_85 rfl ?_
        refine aw_ild3 X dX7_tap_132 rfl ?_
        exact aw_iret X hret rfl dX7_tap_133 (PoM.mk (k := 0) (σ2 := σ.up 4 (σ.ms + 1)) (by unfold sp_tap; rw [if_neg (isY (bI_y c7)), if_pos c33, if_pos (Or.inr c41)]) (by exact w1.obj 0 sm (upd σ.v 4 (σ.ms + 1))))
      · refine aw_ild2 X dX7_tap_44 rfl ?_
        refine aw_iconst X (-1) dX7_tap_45 (by decide) rfl ?_
        refine aw_icmp_eq (n2 := 53) X dX7_tap_46 rfl rfl (fun c46 => ?_) (fun c46 => ?_)
        · refine aw_iconst X (0) dX7_tap_53 (by decide) rfl ?_
          refine aw_goto (n := 70) X dX7_tap_54 rfl ?_
          refine aw_ist3 X dX7_tap_70 rfl (by decide) rfl ?_
          skip
          refine aw_ild3 X dX7_tap_71 rfl ?_
          refine aw_if_ne (n2 := 88) X dX7_tap_72 rfl rfl (fun c72 => absurd rfl c72) (fun c72 => ?_)
          refine aw_ald0 X dX7_tap_75 rfl ?_
          refine aw_dup X dX7_tap_76 rfl rfl ?_
          refine aw_get X fd_X7_158 dX7_tap_77 rfl hmo rfl ?_
          refine aw_iconst X (1) dX7_tap_80 (by decide) rfl ?_
          refine aw_iadd X dX7_tap_81 rfl ?_
          refine aw_put X fd_X7_158 fw_X7_14 dX7_tap_82 rfl htg hmo rfl rfl (Nat.le_of_ble_eq_true rfl) ?_
          refine aw_goto (n := 132) X dX7_tap_85 rfl ?_
          refine aw_ild3 X dX7_tap_132 rfl ?_
          exact aw_iret X hret rfl dX7_tap_133 (PoM.mk (k := 0) (σ2 := σ.up 4 (σ.ms + 1)) (by unfold sp_tap; rw [if_neg (isY (bI_y c7)), if_pos c33, if_pos (Or.inl c46)]) (by exact w1.obj 0 sm (upd σ.v 4 (σ.ms + 1))))
        · refine aw_iconst X (1) dX7_tap_49 (by decide) rfl ?_
          refine aw_goto (n := 70) X dX7_tap_50 rfl ?_
          refine aw_ist3 X dX7_tap_70 rfl (by decide) rfl ?_
          skip
          refine aw_ild3 X dX7_tap_71 rfl ?_
          refine aw_if_ne (n2 := 88) X dX7_tap_72 rfl rfl (fun c72 => ?_) (fun c72 => absurd c72 (by decide))
          refine aw_ild1 X dX7_tap_88 rfl ?_
          refine aw_if_le (n2 := 100) X dX7_tap_89 rfl rfl (fun c89 => ?_) (fun c89 => absurd (by rw [c33]; decide) c89)
          obtain ⟨k, hk, hon⟩ := (on_cases σ).resolve_left c46
          have o9 := hv.oi.resolve_right (fun q => absurd q.1.1 (by rw [c41]; decide))
          have hS1 : σ.S (iN (onS σ)) 1 = σ.S k 1 := by rw [hon, iN_nI (by omega)]
          refine aw_ald0 X dX7_tap_100 rfl ?_
          refine aw_ald0 X dX7_tap_101 rfl ?_
          refine aw_get X fd_X7_19 dX7_tap_102 rfl hmo rfl ?_
          refine aw_ild2 X dX7_tap_105 rfl ?_
          refine aw_callV X dX7_tap_106 rfl (k_lget X.1 hls hon hk (hS k hk).1) cmJx4a65c_get_915e3 ml_X7_48 rfl hls.1 rfl rfl (Nat.le_of_ble_eq_true rfl) ⟨Nat.le_of_ble_eq_true rfl, Nat.le_of_ble_eq_true rfl⟩ (aw_rs ?_)
          refine aw_castA X dX7_tap_109 rfl (kd := 0) (by decide) cc_X7_52 (hS k hk).2 ?_
          refine aw_iconst X (1) dX7_tap_112 (by decide) rfl ?_
          refine aw_iald X (1) dX7_tap_113 rfl (hS k hk).2 rfl (by decide) (by decide) ?_
          refine aw_put X fd_X7_26 fw_X7_7 dX7_tap_114 rfl htg hmo rfl rfl (Nat.le_of_ble_eq_true rfl) ?_
          refine aw_ald0 X dX7_tap_117 rfl ?_
          refine aw_iconst X (1) dX7_tap_118 (by decide) rfl ?_
          refine aw_put X fd_X7_164 fw_X7_8 dX7_tap_119 rfl htg hu_s rfl rfl (Nat.le_of_ble_eq_true rfl) ?_
          refine aw_ald0 X dX7_tap_122 rfl ?_
          refine aw_iconst X (0) dX7_tap_123 (by decide) rfl ?_
          refine aw_put X fd_X7_167 fw_X7_9 dX7_tap_124 rfl htg hu_s rfl rfl (Nat.le_of_ble_eq_true rfl) ?_
          refine aw_ald0 X dX7_tap_127 rfl ?_
          refine aw_iconst X (0) dX7_tap_128 (by decide) rfl ?_
          refine aw_put X fd_X7_161 fw_X7_10 dX7_tap_129 rfl htg hu_s rfl rfl (Nat.le_of_ble_eq_true rfl) ?_
          refine aw_ild3 X dX7_tap_132 rfl ?_
          exact aw_iret X hret rfl dX7_tap_133 (PoM.mk (k := 0) (σ2 := σ.wO (obeg σ.o (σ.S (iN (onS σ)) 1))) (by unfold sp_tap; rw [if_neg (isY (bI_y c7)), if_pos c33, if_neg (fun q => q.elim c46 (fun z => z c41))]) (by simp only [hu_hu]; rw [hS1, ← beg_eq o9.2.2.1 o9.2.2.2]; exact w1.objO 0 sm (upd (upd (upd (upd σ.o 0 (σ.S k 1)) 1 1) 2 0) 3 0)))

set_option maxHeartbeats 4000000 in
set_option maxRecDepth 100000 in
theorem k_X7_silence {l : Launch} {s0 : State} {a0 : Array Value} {G : GG} (X : CX l s0 a0 G) {h : AH} {tg mo : Nat} {A : KA} {t : Int32} {sm : Int64} {σ : NS} (htg : tg ≠ 0) (w : MoW G h tg mo A t sm σ)  : Con l s0 G yX7_silence cX7_silence 1 none 0 0 0 tg [.ref mo] h (fun r h2 => none = r ∧ MoW G h2 tg mo A t sm (σ.wO (upd (upd (upd (upd σ.o 0 (-1)) 1 0) 2 0) 3 0))) := by
  refine Con.of X (by decide +kernel) [some (.ref mo)] rfl (Nat.le_of_ble_eq_true rfl) (fun p e s m below meth c X hnm hret => ?_)
  have w0 := w
  obtain ⟨hmo, ⟨hlp, hls, hlf⟩, ⟨hP, hS, hF⟩, ⟨hn8, hn10, hn12⟩, hdd⟩ := id w
  refine aw_ald0 X dX7_silence_0 rfl ?_
  refine aw_iconst X (-1) dX7_silence_1 (by decide) rfl ?_
  refine aw_put X fd_X7_26 fw_X7_7 dX7_silence_2 rfl htg hmo rfl rfl (Nat.le_of_ble_eq_true rfl) ?_
  refine aw_ald0 X dX7_silence_5 rfl ?_
  refine aw_iconst X (0) dX7_silence_6 (by decide) rfl ?_
  refine aw_put X fd_X7_164 fw_X7_8 dX7_silence_7 rfl htg hu_s rfl rfl (Nat.le_of_ble_eq_true rfl) ?_
  refine aw_ald0 X dX7_silence_10 rfl ?_
  refine aw_iconst X (0) dX7_silence_11 (by decide) rfl ?_
  refine aw_put X fd_X7_167 fw_X7_9 dX7_silence_12 rfl htg hu_s rfl rfl (Nat.le_of_ble_eq_true rfl) ?_
  refine aw_ald0 X dX7_silence_15 rfl ?_
  refine aw_iconst X (0) dX7_silence_16 (by decide) rfl ?_
  refine aw_put X fd_X7_161 fw_X7_10 dX7_silence_17 rfl htg hu_s rfl rfl (Nat.le_of_ble_eq_true rfl) ?_
  exact aw_vret X hret dX7_silence_20 (⟨rfl, by simp only [hu_hu]; exact w0.objO t sm (upd (upd (upd (upd σ.o 0 (-1)) 1 0) 2 0) 3 0)⟩)

theorem upd_up {r : Nat → Int32} {k : Nat} {x y : Int32} : upd (upd r k x) k y = upd r k y := funext fun i => by
  by_cases q : i = k
  · rw [q, pk_us, pk_us]
  · rw [pk_un q, pk_un q, pk_un q]
theorem gong_m1 {r : Nat → Int32} {g : Int32} (h : r 3 = 1) : upd (gongR r) 4 g = upd (upd (upd (upd r 4 g) 2 0) 1 (if r 1 + 1 < 3 then r 1 + 1 else 3)) 3 0 := by
  rw [gong_e1 h, upd_cm (show (3 : Nat) ≠ 4 by decide), upd_cm (show (1 : Nat) ≠ 4 by decide), upd_cm (show (2 : Nat) ≠ 4 by decide), upd_up]
theorem gong_m2 {r : Nat → Int32} {g : Int32} (h1 : ¬ r 3 = 1) (h : r 3 = 2) : upd (gongR r) 4 g = upd (upd (upd (upd r 4 g) 2 0) 1 (if 1 < r 1 - 1 then r 1 - 1 else 1)) 3 0 := by
  rw [gong_e2 h1 h, upd_cm (show (3 : Nat) ≠ 4 by decide), upd_cm (show (1 : Nat) ≠ 4 by decide), upd_cm (show (2 : Nat) ≠ 4 by decide), upd_up]
theorem gong_m3 {r : Nat → Int32} {g : Int32} (h1 : ¬ r 3 = 1) (h2 : ¬ r 3 = 2) (h : r 3 = 3) : upd (gongR r) 4 g = upd (upd (upd (upd (upd (upd (upd r 4 g) 2 0) 0 (-1)) 1 0) 2 0) 3 0) 3 0 := by
  rw [gong_e3 h1 h2 h, upd_cm (show (3 : Nat) ≠ 4 by decide), upd_cm (show (1 : Nat) ≠ 4 by decide), upd_cm (show (0 : Nat) ≠ 4 by decide), upd_cm (show (2 : Nat) ≠ 4 by decide), upd_up, upd_up, upd_id (r := upd (upd (upd (upd r 4 g) 2 0) 0 (-1)) 1 0) (k := 2) (x := 0) rfl]
theorem gong_m0 {r : Nat → Int32} {g : Int32} (h1 : ¬ r 3 = 1) (h2 : ¬ r 3 = 2) (h : ¬ r 3 = 3) : upd (gongR r) 4 g = upd (upd (upd r 4 g) 2 0) 3 0 := by
  rw [gong_e0 h1 h2 h, upd_cm (show (3 : Nat) ≠ 4 by decide), upd_cm (show (2 : Nat) ≠ 4 by decide), upd_up]
theorem gong_4 {r : Nat → Int32} : gongR r 4 = r 4 + 1 := by
  by_cases c1 : r 3 = 1
  · rw [gong_e1 c1]; rfl
  · by_cases c2 : r 3 = 2
    · rw [gong_e2 c1 c2]; rfl
    · by_cases c3 : r 3 = 3
      · rw [gong_e3 c1 c2 c3]; rfl
      · rw [gong_e0 c1 c2 c3]; rfl
theorem beatsR_s {j : Nat} {r : Nat → Int32} (n : ¬ r 0 = -1) : beatsR (j + 1) r = beatsR j (beatR r) := if_neg n
theorem sub_1 {a g : Int32} : a - g + 1 = a + 1 - g := by
  apply Int32.toBitVec_inj.mp
  simp only [Int32.toBitVec_add, Int32.toBitVec_sub, BitVec.sub_eq_add_neg]
  ac_rfl
theorem add_sub9 {a g : Int32} : g + (a - g) = a := by
  rw [Int32.add_comm, Int32.sub_add_cancel]

theorem MoW.oN {G : GG} {h : AH} {tg mo : Nat} {A : KA} {t : Int32} {sm : Int64} {σk σ : NS} {a : Nat → Int32} (w : MoW G h tg mo A t sm σk) (hk : σk = σ.wO a) (r : Nat → Int32) : MoW G (hu h mo (tg, cMod t A (σk.wO r) sm)) tg mo A t sm (σ.wO r) := by
  have e : σk.wO r = σ.wO r := by rw [hk]; rfl
  have w2 := w.objO t sm r
  rw [e] at w2 ⊢
  exact w2

set_option maxHeartbeats 4000000 in
set_option maxRecDepth 100000 in
theorem k_X7_play {l : Launch} {s0 : State} {a0 : Array Value} {G : GG} (X : CX l s0 a0 G) {h : AH} {tg mo : Nat} {A : KA} {t : Int32} {sm : Int64} {σ : NS} (htg : tg ≠ 0) (w : MoW G h tg mo A t sm σ) (hv : IV σ)  : Con l s0 G yX7_play cX7_play 3 (some .int) 1 24 96 tg [.ref mo] h (fun r h2 => some (.int (playR σ.o 4 - σ.o 4)) = r ∧ MoW G h2 tg mo A t sm (σ.wO (playR σ.o))) := by
  refine Con.of X (by decide +kernel) [some (.ref mo), none, none] rfl (Nat.le_of_ble_eq_true rfl) (fun p e s m below meth c X hnm hret => ?_)
  have w0 := w
  obtain ⟨hmo, ⟨hlp, hls, hlf⟩, ⟨hP, hS, hF⟩, ⟨hn8, hn10, hn12⟩, hdd⟩ := id w
  have hpl := play_24 hv.oi
  have hplay : playR σ.o = beatsR (8 * σ.o 1).toNatClampNeg σ.o := rfl
  generalize hN9 : (8 * σ.o 1).toNatClampNeg = N9 at hpl hplay
  refine aw_iconst X (0) dX7_play_0 (by decide) rfl ?_
  refine aw_ist1 X dX7_play_1 rfl (by decide) rfl ?_
  refine aw_bipush X (8) dX7_play_2 (by decide) rfl ?_
  refine aw_ald0 X dX7_play_4 rfl ?_
  refine aw_get X fd_X7_164 dX7_play_5 rfl hmo rfl ?_
  refine aw_imul X dX7_play_8 rfl ?_
  refine aw_ist2 X dX7_play_9 rfl (by decide) rfl ?_
  refine aw_dn (n := N9) (A := fun j k => ∀ (h9 : AH), ∀ (u : Int32), ∀ (xl : Int32), ∀ (qq : Nat → Int32), ∀ (σk : NS), ∀ (b : Nat), ∀ (d : Nat), (MoW G h9 tg mo A t sm σk) → (σk = σ.wO (upd qq 4 (σ.o 4))) → (xl = nI j) → (playR σ.o = beatsR j qq) → (OI qq) → (u = qq 4 - σ.o 4) → (j ≤ b) → (4 * j ≤ d) → AW p l e _ s m _ below meth c _ s0 G 3 tg _ h9 b d 10 [some (.ref mo), some (.int u), some (.int xl)] []) ?_ ?_ N9 0 rfl h 0 (8 * σ.o 1) σ.o σ 24 96 w0 (by rw [upd_id rfl]; rfl) hpl.1 hplay hv.oi (by rw [Int32.sub_self]) (by omega) (by omega)
  · intro h9 u xl qq σk b d w9 hkk hxl hI hoi hu9 hb hd
    clear hmo
    obtain ⟨hmo, -⟩ := id w9
    have hok : σk.o = upd qq 4 (σ.o 4) := by rw [hkk]; rfl
    have eo0 : σk.o 0 = qq 0 := by rw [hok]; rfl
    have eo2 : σk.o 2 = qq 2 := by rw [hok]; rfl
    refine aw_ild2 X dX7_play_10 rfl ?_
    refine aw_if_le (n2 := 121) X dX7_play_11 rfl rfl (fun c11 => ?_) (fun c11 => absurd (by rw [hxl]; decide) c11)
    refine aw_ald0 X dX7_play_121 rfl ?_
    refine aw_dup X dX7_play_122 rfl rfl ?_
    refine aw_get X fd_X7_179 dX7_play_123 rfl hmo rfl ?_
    refine aw_ild1 X dX7_play_126 rfl ?_
    refine aw_iadd X dX7_play_127 rfl ?_
    refine aw_put X fd_X7_179 fw_X7_17 dX7_play_128 rfl htg hmo rfl rfl (Nat.le_of_ble_eq_true rfl) ?_
    have hz : playR σ.o = qq := hI
    have e44 : σk.o 4 = σ.o 4 := by rw [hok]; rfl
    have e9 : upd σk.o 4 (σk.o 4 + u) = qq := by rw [e44, hok, upd_up, hu9, add_sub9]; exact upd_id rfl
    refine aw_ild1 X dX7_play_131 rfl ?_
    exact aw_iret X hret rfl dX7_play_132 (⟨by rw [hz, hu9], by rw [hz, ← e9]; exact w9.oN hkk (upd σk.o 4 (σk.o 4 + u))⟩)
  · intro j k hjk ih h9 u xl qq σk b d w9 hkk hxl hI hoi hu9 hb hd
    clear hmo
    obtain ⟨hmo, -⟩ := id w9
    have hok : σk.o = upd qq 4 (σ.o 4) := by rw [hkk]; rfl
    have eo0 : σk.o 0 = qq 0 := by rw [hok]; rfl
    have eo2 : σk.o 2 = qq 2 := by rw [hok]; rfl
    refine aw_ild2 X dX7_play_10 rfl ?_
    refine aw_if_le (n2 := 121) X dX7_play_11 rfl rfl (fun c11 => absurd c11 (by rw [hxl]; exact (fun q => absurd ((nI_leI (b := 0) (by omega) (by omega)).mp q) (by omega)))) (fun c11 => ?_)
    refine aw_ald0 X dX7_play_14 rfl ?_
    refine aw_get X fd_X7_26 dX7_play_15 rfl hmo rfl ?_
    refine aw_iconst X (-1) dX7_play_18 (by decide) rfl ?_
    refine aw_icmp_eq (n2 := 121) X dX7_play_19 rfl rfl (fun c19 => ?_) (fun c19 => ?_)
    · rw [eo0] at c19
      refine aw_ald0 X dX7_play_121 rfl ?_
      refine aw_dup X dX7_play_122 rfl rfl ?_
      refine aw_get X fd_X7_179 dX7_play_123 rfl hmo rfl ?_
      refine aw_ild1 X dX7_play_126 rfl ?_
      refine aw_iadd X dX7_play_127 rfl ?_
      refine aw_put X fd_X7_179 fw_X7_17 dX7_play_128 rfl htg hmo rfl rfl (Nat.le_of_ble_eq_true rfl) ?_
      have hz : playR σ.o = qq := hI.trans (if_pos c19)
      have e44 : σk.o 4 = σ.o 4 := by rw [hok]; rfl
      have e9 : upd σk.o 4 (σk.o 4 + u) = qq := by rw [e44, hok, upd_up, hu9, add_sub9]; exact upd_id rfl
      refine aw_ild1 X dX7_play_131 rfl ?_
      exact aw_iret X hret rfl dX7_play_132 (⟨by rw [hz, hu9], by rw [hz, ← e9]; exact w9.oN hkk (upd σk.o 4 (σk.o 4 + u))⟩)
    · rw [eo0] at c19
      obtain ⟨bb, CC, hbC, hC32, e2b, eC⟩ := oi_beat hoi c19
      obtain ⟨q1, hq1⟩ : ∃ q1, q1 = upd qq 2 (qq 2 + 1) := ⟨_, rfl⟩
      have hq10 : q1 0 = qq 0 := by rw [hq1]; rfl
      have hq12 : q1 2 = qq 2 + 1 := by rw [hq1]; rfl
      have hq14 : q1 4 = qq 4 := by rw [hq1]; rfl
      refine aw_ald0 X dX7_play_22 rfl ?_
      refine aw_dup X dX7_play_23 rfl rfl ?_
      refine aw_get X fd_X7_167 dX7_play_24 rfl hmo rfl ?_
      refine aw_iconst X (1) dX7_play_27 (by decide) rfl ?_
      refine aw_iadd X dX7_play_28 rfl ?_
      refine aw_put X fd_X7_167 fw_X7_9 dX7_play_29 rfl htg hmo rfl rfl (Nat.le_of_ble_eq_true rfl) ?_
      refine aw_genP (Pr := fun h3 => ∃ σz, σz = σ.wO (upd σk.o 2 (σk.o 2 + 1)) ∧ MoW G h3 tg mo A t sm σz) ⟨_, rfl, w9.oN hkk (upd σk.o 2 (σk.o 2 + 1))⟩ (fun h1 wz => ?_)
      obtain ⟨σ1, hk1, w1⟩ := wz
      have ho1 : σ1.o = upd σk.o 2 (σk.o 2 + 1) := by rw [hk1]; rfl
      clear hmo
      obtain ⟨hmo, -⟩ := id w1
      have hp1 : σ1.o = upd q1 4 (σ.o 4) := by rw [ho1, eo2, hok, upd_cm (show (4 : Nat) ≠ 2 by decide), hq1]
      have hm9 := hoi.resolve_left (fun q => c19 q.1)
      have e10 : σ1.o 0 = qq 0 := by rw [hp1]; exact hq10
      have e12 : σ1.o 2 = qq 2 + 1 := by rw [hp1]; exact hq12
      have hqm := nI_iN (x := σ1.o 0) (n := 4) (by rw [e10]; exact hm9.1.1) (by rw [e10]; exact Int32.lt_of_le_of_lt hm9.1.2 (by decide)) (by decide)
      refine aw_ald0 X dX7_play_32 rfl ?_
      refine aw_get X fd_X7_167 dX7_play_33 rfl hmo rfl ?_
      refine aw_ald0 X dX7_play_36 rfl ?_
      obtain ⟨b2, rfl⟩ : ∃ b2, b = b2 + 1 := ⟨b - 1, by omega⟩
      obtain ⟨d2, rfl⟩ : ∃ d2, d = d2 + 4 := ⟨d - 4, by omega⟩
      refine aw_callV X dX7_play_37 rfl (k_X7_cycle X.1 htg w1 (q9 := iN (σ1.o 0)) hqm.1 hqm.2) cmX7_cycle ml_X7_170 rfl hmo rfl rfl (Nat.le_of_ble_eq_true rfl) ⟨Nat.le_of_ble_eq_true rfl, Nat.le_of_ble_eq_true rfl⟩ (fun r h2 hq hf => ?_)
      obtain ⟨rfl, hxA⟩ := hq
      have w2 := w1.ext hxA
      clear hmo
      obtain ⟨hmo, -⟩ := id w2
      refine aw_icmp_ge (n2 := 46) X dX7_play_40 rfl rfl (fun c40 => ?_) (fun c40 => ?_)
      · rw [e10, e12] at c40
        have hcy : qq 2 + 1 = cyc (qq 0) := by
          rw [e2b, eC, nI_1] at c40
          rw [e2b, eC, nI_1]
          have := (nI_leI (by omega) (by omega)).mp c40
          rw [show bb + 1 = CC by omega]
        refine aw_ald0 X dX7_play_46 rfl ?_
        refine aw_iconst X (0) dX7_play_47 (by decide) rfl ?_
        refine aw_put X fd_X7_167 fw_X7_9 dX7_play_48 rfl htg hmo rfl rfl (Nat.le_of_ble_eq_true rfl) ?_
        refine aw_genP (Pr := fun h3 => ∃ σz, σz = σ.wO (upd σ1.o 2 0) ∧ MoW G h3 tg mo A t sm σz) ⟨_, rfl, w2.oN hk1 (upd σ1.o 2 0)⟩ (fun h3 wz => ?_)
        obtain ⟨σ3, hk3, w3⟩ := wz
        have ho3 : σ3.o = upd σ1.o 2 0 := by rw [hk3]; rfl
        clear hmo
        obtain ⟨hmo, -⟩ := id w3
        have e31 : σ3.o 1 = q1 1 := by rw [ho3, hp1]; rfl
        have e33 : σ3.o 3 = q1 3 := by rw [ho3, hp1]; rfl
        refine aw_iinc1 X (1) dX7_play_51 (by decide) rfl (by decide) rfl ?_
        refine aw_ald0 X dX7_play_54 rfl ?_
        refine aw_get X fd_X7_161 dX7_play_55 rfl hmo rfl ?_
        refine aw_iconst X (1) dX7_play_58 (by decide) rfl ?_
        refine aw_icmp_ne (n2 := 76) X dX7_play_59 rfl rfl (fun c59 => ?_) (fun c59 => ?_)
        · rw [e33] at c59
          refine aw_ald0 X dX7_play_76 rfl ?_
          refine aw_get X fd_X7_161 dX7_play_77 rfl hmo rfl ?_
          refine aw_iconst X (2) dX7_play_80 (by decide) rfl ?_
          refine aw_icmp_ne (n2 := 98) X dX7_play_81 rfl rfl (fun c81 => ?_) (fun c81 => ?_)
          · rw [e33] at c81
            refine aw_ald0 X dX7_play_98 rfl ?_
            refine aw_get X fd_X7_161 dX7_play_99 rfl hmo rfl ?_
            refine aw_iconst X (3) dX7_play_102 (by decide) rfl ?_
            refine aw_icmp_ne (n2 := 110) X dX7_play_103 rfl rfl (fun c103 => ?_) (fun c103 => ?_)
            · rw [e33] at c103
              refine aw_ald0 X dX7_play_110 rfl ?_
              refine aw_iconst X (0) dX7_play_111 (by decide) rfl ?_
              refine aw_put X fd_X7_161 fw_X7_10 dX7_play_112 rfl htg hmo rfl rfl (Nat.le_of_ble_eq_true rfl) ?_
              refine aw_iinc2 X (-1) dX7_play_115 (by decide) rfl (by decide) rfl ?_
              refine aw_goto (n := 10) X dX7_play_118 rfl ?_
              have hbq : beatR qq = gongR q1 := by rw [hq1]; exact if_pos hcy
              exact ih _ (u + 1) _ (gongR q1) _ b2 d2 (w3.oN hk3 (upd σ3.o 3 0)) (by rw [ho3, hp1, gong_m0 c59 c81 c103]) (by rw [hxl]; exact pk_m1 j) (by rw [hI, beatsR_s c19, hbq]) (hbq ▸ beat_oi hoi c19) (by rw [hu9, gong_4, hq14]; exact sub_1) (by omega) (by omega)
            · rw [e33] at c103
              refine aw_ald0 X dX7_play_106 rfl ?_
              refine aw_callV X dX7_play_107 rfl (k_X7_silence X.1 htg w3) cmX7_silence ml_X7_176 rfl hmo rfl rfl (Nat.le_of_ble_eq_true rfl) ⟨Nat.le_of_ble_eq_true rfl, Nat.le_of_ble_eq_true rfl⟩ (fun r h4 hq hf => ?_)
              obtain ⟨rfl, w4⟩ := hq
              obtain ⟨σ4, hs4⟩ : ∃ σ4, σ4 = σ3.wO (upd (upd (upd (upd σ3.o 0 (-1)) 1 0) 2 0) 3 0) := ⟨_, rfl⟩
              rw [← hs4] at w4
              have ho4 : σ4.o = upd (upd (upd (upd σ3.o 0 (-1)) 1 0) 2 0) 3 0 := by rw [hs4]; rfl
              have hk4 : σ4 = σ.wO (upd (upd (upd (upd σ3.o 0 (-1)) 1 0) 2 0) 3 0) := by
                rw [hs4]
                generalize upd (upd (upd (upd σ3.o 0 (-1)) 1 0) 2 0) 3 0 = r4
                rw [hk3]
                rfl
              clear hmo
              obtain ⟨hmo, -⟩ := id w4
              refine aw_ald0 X dX7_play_110 rfl ?_
              refine aw_iconst X (0) dX7_play_111 (by decide) rfl ?_
              refine aw_put X fd_X7_161 fw_X7_10 dX7_play_112 rfl htg hmo rfl rfl (Nat.le_of_ble_eq_true rfl) ?_
              refine aw_iinc2 X (-1) dX7_play_115 (by decide) rfl (by decide) rfl ?_
              refine aw_goto (n := 10) X dX7_play_118 rfl ?_
              have hbq : beatR qq = gongR q1 := by rw [hq1]; exact if_pos hcy
              exact ih _ (u + 1) _ (gongR q1) _ b2 d2 (w4.oN hk4 (upd σ4.o 3 0)) (by rw [ho4, ho3, hp1, gong_m3 c59 c81 c103]) (by rw [hxl]; exact pk_m1 j) (by rw [hI, beatsR_s c19, hbq]) (hbq ▸ beat_oi hoi c19) (by rw [hu9, gong_4, hq14]; exact sub_1) (by omega) (by omega)
          · rw [e33] at c81
            refine aw_ald0 X dX7_play_84 rfl ?_
            refine aw_iconst X (1) dX7_play_85 (by decide) rfl ?_
            refine aw_ald0 X dX7_play_86 rfl ?_
            refine aw_get X fd_X7_164 dX7_play_87 rfl hmo rfl ?_
            refine aw_iconst X (1) dX7_play_90 (by decide) rfl ?_
            refine aw_isub X dX7_play_91 rfl ?_
            refine aw_mmax X dX7_play_92 rfl ⟨ml_X7_173, mm_max⟩ (Nat.le_of_ble_eq_true rfl) (Nat.le_of_ble_eq_true rfl) ?_
            refine aw_put X fd_X7_164 fw_X7_8 dX7_play_95 rfl htg hmo rfl rfl (Nat.le_of_ble_eq_true rfl) ?_
            refine aw_genP (Pr := fun h3 => ∃ σz, σz = σ.wO (upd σ3.o 1 (if 1 < σ3.o 1 - 1 then σ3.o 1 - 1 else 1)) ∧ MoW G h3 tg mo A t sm σz) ⟨_, rfl, w3.oN hk3 (upd σ3.o 1 (if 1 < σ3.o 1 - 1 then σ3.o 1 - 1 else 1))⟩ (fun h4 wz => ?_)
            obtain ⟨σ4, hk4, w4⟩ := wz
            have ho4 : σ4.o = upd σ3.o 1 (if 1 < σ3.o 1 - 1 then σ3.o 1 - 1 else 1) := by rw [hk4]; rfl
            clear hmo
            obtain ⟨hmo, -⟩ := id w4
            have e43 : σ4.o 3 = q1 3 := by rw [ho4]; exact e33
            refine aw_ald0 X dX7_play_98 rfl ?_
            refine aw_get X fd_X7_161 dX7_play_99 rfl hmo rfl ?_
            refine aw_iconst X (3) dX7_play_102 (by decide) rfl ?_
            refine aw_icmp_ne (n2 := 110) X dX7_play_103 rfl rfl (fun c103 => ?_) (fun c103 => absurd c103 (by rw [e43, c81]; decide))
            refine aw_ald0 X dX7_play_110 rfl ?_
            refine aw_iconst X (0) dX7_play_111 (by decide) rfl ?_
            refine aw_put X fd_X7_161 fw_X7_10 dX7_play_112 rfl htg hmo rfl rfl (Nat.le_of_ble_eq_true rfl) ?_
            refine aw_iinc2 X (-1) dX7_play_115 (by decide) rfl (by decide) rfl ?_
            refine aw_goto (n := 10) X dX7_play_118 rfl ?_
            have hbq : beatR qq = gongR q1 := by rw [hq1]; exact if_pos hcy
            exact ih _ (u + 1) _ (gongR q1) _ b2 d2 (w4.oN hk4 (upd σ4.o 3 0)) (by rw [ho4, e31, ho3, hp1, gong_m2 c59 c81]) (by rw [hxl]; exact pk_m1 j) (by rw [hI, beatsR_s c19, hbq]) (hbq ▸ beat_oi hoi c19) (by rw [hu9, gong_4, hq14]; exact sub_1) (by omega) (by omega)
        · rw [e33] at c59
          refine aw_ald0 X dX7_play_62 rfl ?_
          refine aw_iconst X (3) dX7_play_63 (by decide) rfl ?_
          refine aw_ald0 X dX7_play_64 rfl ?_
          refine aw_get X fd_X7_164 dX7_play_65 rfl hmo rfl ?_
          refine aw_iconst X (1) dX7_play_68 (by decide) rfl ?_
          refine aw_iadd X dX7_play_69 rfl ?_
          refine aw_mmin X dX7_play_70 rfl ⟨ml_X7_62, mm_min⟩ (Nat.le_of_ble_eq_true rfl) (Nat.le_of_ble_eq_true rfl) ?_
          refine aw_put X fd_X7_164 fw_X7_8 dX7_play_73 rfl htg hmo rfl rfl (Nat.le_of_ble_eq_true rfl) ?_
          refine aw_genP (Pr := fun h3 => ∃ σz, σz = σ.wO (upd σ3.o 1 (if σ3.o 1 + 1 < 3 then σ3.o 1 + 1 else 3)) ∧ MoW G h3 tg mo A t sm σz) ⟨_, rfl, w3.oN hk3 (upd σ3.o 1 (if σ3.o 1 + 1 < 3 then σ3.o 1 + 1 else 3))⟩ (fun h4 wz => ?_)
          obtain ⟨σ4, hk4, w4⟩ := wz
          have ho4 : σ4.o = upd σ3.o 1 (if σ3.o 1 + 1 < 3 then σ3.o 1 + 1 else 3) := by rw [hk4]; rfl
          clear hmo
          obtain ⟨hmo, -⟩ := id w4
          have e43 : σ4.o 3 = q1 3 := by rw [ho4]; exact e33
          refine aw_ald0 X dX7_play_76 rfl ?_
          refine aw_get X fd_X7_161 dX7_play_77 rfl hmo rfl ?_
          refine aw_iconst X (2) dX7_play_80 (by decide) rfl ?_
          refine aw_icmp_ne (n2 := 98) X dX7_play_81 rfl rfl (fun c81 => ?_) (fun c81 => absurd c81 (by rw [e43, c59]; decide))
          refine aw_ald0 X dX7_play_98 rfl ?_
          refine aw_get X fd_X7_161 dX7_play_99 rfl hmo rfl ?_
          refine aw_iconst X (3) dX7_play_102 (by decide) rfl ?_
          refine aw_icmp_ne (n2 := 110) X dX7_play_103 rfl rfl (fun c103 => ?_) (fun c103 => absurd c103 (by rw [e43, c59]; decide))
          refine aw_ald0 X dX7_play_110 rfl ?_
          refine aw_iconst X (0) dX7_play_111 (by decide) rfl ?_
          refine aw_put X fd_X7_161 fw_X7_10 dX7_play_112 rfl htg hmo rfl rfl (Nat.le_of_ble_eq_true rfl) ?_
          refine aw_iinc2 X (-1) dX7_play_115 (by decide) rfl (by decide) rfl ?_
          refine aw_goto (n := 10) X dX7_play_118 rfl ?_
          have hbq : beatR qq = gongR q1 := by rw [hq1]; exact if_pos hcy
          exact ih _ (u + 1) _ (gongR q1) _ b2 d2 (w4.oN hk4 (upd σ4.o 3 0)) (by rw [ho4, e31, ho3, hp1, gong_m1 c59]) (by rw [hxl]; exact pk_m1 j) (by rw [hI, beatsR_s c19, hbq]) (hbq ▸ beat_oi hoi c19) (by rw [hu9, gong_4, hq14]; exact sub_1) (by omega) (by omega)
      · rw [e10, e12] at c40
        have hcy : ¬ qq 2 + 1 = cyc (qq 0) := fun q => c40 (by rw [q]; exact Int32.le_refl _)
        have hbq : beatR qq = q1 := by rw [hq1]; exact if_neg hcy
        refine aw_goto (n := 115) X dX7_play_43 rfl ?_
        refine aw_iinc2 X (-1) dX7_play_115 (by decide) rfl (by decide) rfl ?_
        refine aw_goto (n := 10) X dX7_play_118 rfl ?_
        exact ih _ u _ q1 σ1 b2 d2 w2 (by rw [hk1, ← ho1, hp1]) (by rw [hxl]; exact pk_m1 j) (by rw [hI, beatsR_s c19, hbq]) (hbq ▸ beat_oi hoi c19) (by rw [hu9, hq14]) (by omega) (by omega)
