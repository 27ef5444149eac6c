/-! THE PLOT: persons and scenes; rows as the reference has them (person: 0 side, 1 rank, 2 pitch, 3 born, 4 dies, 5 knows; scene: 0 year, 1 mood, 2 cast, 3 length, 4 dies, 5 tells), beside a scene what the class keeps of it (0 breach of the cycle, 1 begins, 2 breach, 3 who knows behind it) -/
def cScn (s x : Nat → Int32) : AE := .inr (6, [.int (s 0), .int (s 1), .int (s 2), .int (s 4), .int (s 5), .int (x 0), .int (s 3), .int (x 1), .int (x 2), .int (x 3)])
def partS (b : Int32) : Int32 := if b / 180 < 2 then b / 180 else 2
def bw (s : Nat → Int32) (cb beg dead know : Int32) : Int32 :=
  if cb = 1 ∨ ¬ (s 2 &&& dead) = 0 then 1 else if cb = 2 then 2 else if ¬ s 5 = -1 ∧ ¬ holdsP know (s 5) then 3 else if partS beg + 1 < s 1 then 4 else if 540 < beg + s 3 then 5 else 0
def svl (s x : Nat → Int32) (q : Int32) : Int32 := if q = 0 then s 0 else if q = 1 then s 1 else if q = 2 then s 2 else if q = 3 then s 3 else if q = 4 then s 4 else if q = 5 then s 5 else if q = 6 then x 1 else if q = 7 then partS (x 1) else x 2

theorem fitB {x : Int32} (h : narrow .boolean (.int x) = .int x) : fits .boolean (.int x) = true := by
  rw [← h]
  obtain ⟨j, hj, e⟩ := pk_andE x (m := 1) 1 (by decide)
  simp only [narrow, fits, e]
  have : j = 0 ∨ j = 1 := by omega
  rcases this with rfl | rfl <;> decide

set_option maxHeartbeats 4000000 in
set_option maxRecDepth 100000 in
theorem k_X2_init {l : Launch} {s0 : State} {a0 : Array Value} {G : GG} (X : CX l s0 a0 G) {h : AH} {a tg : Nat} (htg : tg ≠ 0) (x1 x2 x3 x4 x5 x6 : Int32) (h6 : narrow .boolean (.int x6) = .int x6) (ha : h a = some (tg, .inr (4, [.int 0, .int 0, .int 0, .int 0, .int 0, .int 0]))) : Con l s0 G yX2_init cX2_init 7 none 1 0 0 tg [.ref a, .int x1, .int x2, .int x3, .int x4, .int x5, .int x6] h (RV (hu h a (tg, .inr (4, [.int x1, .int x2, .int x3, .int x4, .int x5, .int x6])))) := by
  refine Con.of X (by decide +kernel) [some (.ref a), some (.int x1), some (.int x2), some (.int x3), some (.int x4), some (.int x5), some (.int x6)] rfl (Nat.le_of_ble_eq_true rfl) (fun p e s m below meth c X hnm hret => ?_)
  refine aw_ald0 X dX2_init_0 rfl ?_
  refine aw_objInit X dX2_init_1 rfl ⟨ml_X2_1, oi_ok⟩ (Nat.le_of_ble_eq_true rfl) (Nat.le_of_ble_eq_true rfl) ?_
  refine aw_ald0 X dX2_init_4 rfl ?_
  refine aw_ild1 X dX2_init_5 rfl ?_
  refine aw_putF X fd_X2_7 fi_X2_0 hnm dX2_init_6 rfl htg ha rfl rfl (Nat.le_of_ble_eq_true rfl) ?_
  refine aw_ald0 X dX2_init_9 rfl ?_
  refine aw_ild2 X dX2_init_10 rfl ?_
  refine aw_putF X fd_X2_13 fi_X2_1 hnm dX2_init_11 rfl htg hu_s rfl rfl (Nat.le_of_ble_eq_true rfl) ?_
  refine aw_ald0 X dX2_init_14 rfl ?_
  refine aw_ild3 X dX2_init_15 rfl ?_
  refine aw_putF X fd_X2_16 fi_X2_2 hnm dX2_init_16 rfl htg hu_s rfl rfl (Nat.le_of_ble_eq_true rfl) ?_
  refine aw_ald0 X dX2_init_19 rfl ?_
  refine aw_ild4 X dX2_init_20 rfl ?_
  refine aw_putF X fd_X2_19 fi_X2_3 hnm dX2_init_22 rfl htg hu_s rfl rfl (Nat.le_of_ble_eq_true rfl) ?_
  refine aw_ald0 X dX2_init_25 rfl ?_
  refine aw_ild5 X dX2_init_26 rfl ?_
  refine aw_putF X fd_X2_22 fi_X2_4 hnm dX2_init_28 rfl htg hu_s rfl rfl (Nat.le_of_ble_eq_true rfl) ?_
  refine aw_ald0 X dX2_init_31 rfl ?_
  refine aw_ild6 X dX2_init_32 rfl ?_
  refine aw_putF X fd_X2_25 fi_X2_5 hnm dX2_init_34 rfl htg hu_s h6 (fitB h6) (Nat.le_of_ble_eq_true rfl) ?_
  exact aw_vret X hret dX2_init_37 (⟨rfl, by simp only [hu_hu]; rfl⟩)

set_option maxHeartbeats 4000000 in
set_option maxRecDepth 100000 in
theorem k_X2_livesIn {l : Launch} {s0 : State} {a0 : Array Value} {G : GG} (X : CX l s0 a0 G) {h : AH} {a t tg : Nat} {r : Nat → Int32} (hp : h a = some (t, oPer r)) (yr : Int32) : Con l s0 G yX2_livesIn cX2_livesIn 2 (some .boolean) 0 0 0 tg [.ref a, .int yr] h (RS (.int (bI (r 3 ≤ yr ∧ yr ≤ r 4))) h) := by
  refine Con.of X (by decide +kernel) [some (.ref a), some (.int yr)] rfl (Nat.le_of_ble_eq_true rfl) (fun p e s m below meth c X hnm hret => ?_)
  refine aw_ald0 X dX2_livesIn_0 rfl ?_
  refine aw_get X fd_X2_19 dX2_livesIn_1 rfl hp rfl ?_
  refine aw_ild1 X dX2_livesIn_4 rfl ?_
  refine aw_icmp_gt (n2 := 20) X dX2_livesIn_5 rfl rfl (fun c5 => ?_) (fun c5 => ?_)
  · refine aw_iconst X (0) dX2_livesIn_20 (by decide) rfl ?_
    exact aw_iret X hret rfl dX2_livesIn_21 (⟨by first | (simp_all [bI, bI_0, bI_ne, Int32.not_lt, Int32.not_le]; done) | grind [bI, bI_0, bI_ne], rfl⟩)
  · refine aw_ild1 X dX2_livesIn_8 rfl ?_
    refine aw_ald0 X dX2_livesIn_9 rfl ?_
    refine aw_get X fd_X2_22 dX2_livesIn_10 rfl hp rfl ?_
    refine aw_icmp_gt (n2 := 20) X dX2_livesIn_13 rfl rfl (fun c13 => ?_) (fun c13 => ?_)
    · refine aw_iconst X (0) dX2_livesIn_20 (by decide) rfl ?_
      exact aw_iret X hret rfl dX2_livesIn_21 (⟨by first | (simp_all [bI, bI_0, bI_ne, Int32.not_lt, Int32.not_le]; done) | grind [bI, bI_0, bI_ne], rfl⟩)
    · refine aw_iconst X (1) dX2_livesIn_16 (by decide) rfl ?_
      refine aw_goto (n := 21) X dX2_livesIn_17 rfl ?_
      exact aw_iret X hret rfl dX2_livesIn_21 (⟨by first | (simp_all [bI, bI_0, bI_ne, Int32.not_lt, Int32.not_le]; done) | grind [bI, bI_0, bI_ne], rfl⟩)

set_option maxHeartbeats 4000000 in
set_option maxRecDepth 100000 in
theorem k_X4_init {l : Launch} {s0 : State} {a0 : Array Value} {G : GG} (X : CX l s0 a0 G) {h : AH} {a tg : Nat} (htg : tg ≠ 0) (x1 x2 x3 x4 x5 x6 x7 : Int32) (ha : h a = some (tg, .inr (6, [.int 0, .int 0, .int 0, .int 0, .int 0, .int 0, .int 0, .int 0, .int 0, .int 0]))) : Con l s0 G yX4_init cX4_init 8 none 1 0 0 tg [.ref a, .int x1, .int x2, .int x3, .int x4, .int x5, .int x6, .int x7] h (RV (hu h a (tg, .inr (6, [.int x1, .int x2, .int x3, .int x5, .int x6, .int x7, .int x4, .int 0, .int 0, .int 0])))) := by
  refine Con.of X (by decide +kernel) [some (.ref a), some (.int x1), some (.int x2), some (.int x3), some (.int x4), some (.int x5), some (.int x6), some (.int x7)] rfl (Nat.le_of_ble_eq_true rfl) (fun p e s m below meth c X hnm hret => ?_)
  refine aw_ald0 X dX4_init_0 rfl ?_
  refine aw_objInit X dX4_init_1 rfl ⟨ml_X4_3, oi_ok⟩ (Nat.le_of_ble_eq_true rfl) (Nat.le_of_ble_eq_true rfl) ?_
  refine aw_ald0 X dX4_init_4 rfl ?_
  refine aw_ild1 X dX4_init_5 rfl ?_
  refine aw_putF X fd_X4_9 fi_X4_0 hnm dX4_init_6 rfl htg ha rfl rfl (Nat.le_of_ble_eq_true rfl) ?_
  refine aw_ald0 X dX4_init_9 rfl ?_
  refine aw_ild2 X dX4_init_10 rfl ?_
  refine aw_putF X fd_X4_15 fi_X4_1 hnm dX4_init_11 rfl htg hu_s rfl rfl (Nat.le_of_ble_eq_true rfl) ?_
  refine aw_ald0 X dX4_init_14 rfl ?_
  refine aw_ild3 X dX4_init_15 rfl ?_
  refine aw_putF X fd_X4_18 fi_X4_2 hnm dX4_init_16 rfl htg hu_s rfl rfl (Nat.le_of_ble_eq_true rfl) ?_
  refine aw_ald0 X dX4_init_19 rfl ?_
  refine aw_ild4 X dX4_init_20 rfl ?_
  refine aw_put X fd_X4_21 fw_X4_6 dX4_init_22 rfl htg hu_s rfl rfl (Nat.le_of_ble_eq_true rfl) ?_
  refine aw_ald0 X dX4_init_25 rfl ?_
  refine aw_ild5 X dX4_init_26 rfl ?_
  refine aw_putF X fd_X4_24 fi_X4_3 hnm dX4_init_28 rfl htg hu_s rfl rfl (Nat.le_of_ble_eq_true rfl) ?_
  refine aw_ald0 X dX4_init_31 rfl ?_
  refine aw_ild6 X dX4_init_32 rfl ?_
  refine aw_putF X fd_X4_27 fi_X4_4 hnm dX4_init_34 rfl htg hu_s rfl rfl (Nat.le_of_ble_eq_true rfl) ?_
  refine aw_ald0 X dX4_init_37 rfl ?_
  refine aw_ild7 X dX4_init_38 rfl ?_
  refine aw_putF X fd_X4_30 fi_X4_5 hnm dX4_init_40 rfl htg hu_s rfl rfl (Nat.le_of_ble_eq_true rfl) ?_
  exact aw_vret X hret dX4_init_43 (⟨rfl, by simp only [hu_hu]; rfl⟩)

set_option maxHeartbeats 4000000 in
set_option maxRecDepth 100000 in
theorem k_X4_end {l : Launch} {s0 : State} {a0 : Array Value} {G : GG} (X : CX l s0 a0 G) {h : AH} {a t tg : Nat} {s9 x9 : Nat → Int32} (hs : h a = some (t, cScn s9 x9))  : Con l s0 G yX4_end cX4_end 1 (some .int) 0 0 0 tg [.ref a] h (RS (.int (x9 1 + s9 3)) h) := by
  refine Con.of X (by decide +kernel) [some (.ref a)] rfl (Nat.le_of_ble_eq_true rfl) (fun p e s m below meth c X hnm hret => ?_)
  refine aw_ald0 X dX4_end_0 rfl ?_
  refine aw_get X fd_X4_33 dX4_end_1 rfl hs rfl ?_
  refine aw_ald0 X dX4_end_4 rfl ?_
  refine aw_get X fd_X4_21 dX4_end_5 rfl hs rfl ?_
  refine aw_iadd X dX4_end_8 rfl ?_
  exact aw_iret X hret rfl dX4_end_9 (⟨rfl, rfl⟩)

set_option maxHeartbeats 4000000 in
set_option maxRecDepth 100000 in
theorem k_X4_part {l : Launch} {s0 : State} {a0 : Array Value} {G : GG} (X : CX l s0 a0 G) {h : AH} {a t tg : Nat} {s9 x9 : Nat → Int32} (hs : h a = some (t, cScn s9 x9))  : Con l s0 G yX4_part cX4_part 1 (some .int) 1 0 0 tg [.ref a] h (RS (.int (partS (x9 1))) h) := by
  refine Con.of X (by decide +kernel) [some (.ref a)] rfl (Nat.le_of_ble_eq_true rfl) (fun p e s m below meth c X hnm hret => ?_)
  refine aw_iconst X (2) dX4_part_0 (by decide) rfl ?_
  refine aw_ald0 X dX4_part_1 rfl ?_
  refine aw_get X fd_X4_33 dX4_part_2 rfl hs rfl ?_
  refine aw_sipush X (180) dX4_part_5 (by decide) rfl ?_
  refine aw_idiv X dX4_part_8 (by decide) rfl ?_
  refine aw_mmin X dX4_part_9 rfl ⟨ml_X4_36, mm_min⟩ (Nat.le_of_ble_eq_true rfl) (Nat.le_of_ble_eq_true rfl) ?_
  exact aw_iret X hret rfl dX4_part_12 (⟨rfl, rfl⟩)

set_option maxHeartbeats 4000000 in
set_option maxRecDepth 100000 in
theorem k_X4_breachWith {l : Launch} {s0 : State} {a0 : Array Value} {G : GG} (X : CX l s0 a0 G) {h : AH} {a t tg : Nat} {s9 x9 : Nat → Int32} (hs : h a = some (t, cScn s9 x9)) (de kn : Int32) : Con l s0 G yX4_breachWith cX4_breachWith 3 (some .int) 2 0 0 tg [.ref a, .int de, .int kn] h (RS (.int (bw s9 (x9 0) (x9 1) de kn)) h) := by
  refine Con.of X (by decide +kernel) [some (.ref a), some (.int de), some (.int kn)] rfl (Nat.le_of_ble_eq_true rfl) (fun p e s m below meth c X hnm hret => ?_)
  refine aw_ald0 X dX4_breachWith_0 rfl ?_
  refine aw_get X fd_X4_30 dX4_breachWith_1 rfl hs rfl ?_
  refine aw_iconst X (1) dX4_breachWith_4 (by decide) rfl ?_
  refine aw_icmp_eq (n2 := 17) X dX4_breachWith_5 rfl rfl (fun c5 => ?_) (fun c5 => ?_)
  · refine aw_iconst X (1) dX4_breachWith_17 (by decide) rfl ?_
    exact aw_iret X hret rfl dX4_breachWith_18 (⟨by unfold bw; first | (simp_all [bI_0, Int32.not_lt, Int32.not_le]; done) | (simp_all [bI_0, Int32.not_lt, Int32.not_le]; grind), rfl⟩)
  · refine aw_ald0 X dX4_breachWith_8 rfl ?_
    refine aw_get X fd_X4_18 dX4_breachWith_9 rfl hs rfl ?_
    refine aw_ild1 X dX4_breachWith_12 rfl ?_
    refine aw_iand X dX4_breachWith_13 rfl ?_
    refine aw_if_eq (n2 := 19) X dX4_breachWith_14 rfl rfl (fun c14 => ?_) (fun c14 => ?_)
    · refine aw_ald0 X dX4_breachWith_19 rfl ?_
      refine aw_get X fd_X4_30 dX4_breachWith_20 rfl hs rfl ?_
      refine aw_iconst X (2) dX4_breachWith_23 (by decide) rfl ?_
      refine aw_icmp_ne (n2 := 29) X dX4_breachWith_24 rfl rfl (fun c24 => ?_) (fun c24 => ?_)
      · refine aw_ald0 X dX4_breachWith_29 rfl ?_
        refine aw_get X fd_X4_27 dX4_breachWith_30 rfl hs rfl ?_
        refine aw_iconst X (-1) dX4_breachWith_33 (by decide) rfl ?_
        refine aw_icmp_eq (n2 := 50) X dX4_breachWith_34 rfl rfl (fun c34 => ?_) (fun c34 => ?_)
        · refine aw_ald0 X dX4_breachWith_50 rfl ?_
          refine aw_get X fd_X4_15 dX4_breachWith_51 rfl hs rfl ?_
          refine aw_ald0 X dX4_breachWith_54 rfl ?_
          refine aw_callV X dX4_breachWith_55 rfl (k_X4_part X.1 hs) cmX4_part ml_X4_46 rfl hs rfl rfl (Nat.le_of_ble_eq_true rfl) ⟨Nat.le_of_ble_eq_true rfl, Nat.le_of_ble_eq_true rfl⟩ (aw_rs ?_)
          refine aw_iconst X (1) dX4_breachWith_58 (by decide) rfl ?_
          refine aw_iadd X dX4_breachWith_59 rfl ?_
          refine aw_icmp_le (n2 := 65) X dX4_breachWith_60 rfl rfl (fun c60 => ?_) (fun c60 => ?_)
          · refine aw_ald0 X dX4_breachWith_65 rfl ?_
            refine aw_callV X dX4_breachWith_66 rfl (k_X4_end X.1 hs) cmX4_end ml_X4_50 rfl hs rfl rfl (Nat.le_of_ble_eq_true rfl) ⟨Nat.le_of_ble_eq_true rfl, Nat.le_of_ble_eq_true rfl⟩ (aw_rs ?_)
            refine aw_sipush X (540) dX4_breachWith_69 (by decide) rfl ?_
            refine aw_icmp_le (n2 := 79) X dX4_breachWith_72 rfl rfl (fun c72 => ?_) (fun c72 => ?_)
            · refine aw_iconst X (0) dX4_breachWith_79 (by decide) rfl ?_
              exact aw_iret X hret rfl dX4_breachWith_80 (⟨by unfold bw; first | (simp_all [bI_0, Int32.not_lt, Int32.not_le]; done) | (simp_all [bI_0, Int32.not_lt, Int32.not_le]; grind), rfl⟩)
            · refine aw_iconst X (5) dX4_breachWith_75 (by decide) rfl ?_
              refine aw_goto (n := 80) X dX4_breachWith_76 rfl ?_
              exact aw_iret X hret rfl dX4_breachWith_80 (⟨by unfold bw; first | (simp_all [bI_0, Int32.not_lt, Int32.not_le]; done) | (simp_all [bI_0, Int32.not_lt, Int32.not_le]; grind), rfl⟩)
          · refine aw_iconst X (4) dX4_breachWith_63 (by decide) rfl ?_
            exact aw_iret X hret rfl dX4_breachWith_64 (⟨by unfold bw; first | (simp_all [bI_0, Int32.not_lt, Int32.not_le]; done) | (simp_all [bI_0, Int32.not_lt, Int32.not_le]; grind), rfl⟩)
        · refine aw_ild2 X dX4_breachWith_37 rfl ?_
          refine aw_ald0 X dX4_breachWith_38 rfl ?_
          refine aw_get X fd_X4_27 dX4_breachWith_39 rfl hs rfl ?_
          refine aw_callSN X dX4_breachWith_42 rfl (k_X6_holds X.1 kn (s9 5)) cmX6_holds mn_X4_42 rfl rfl (Nat.le_of_ble_eq_true rfl) ⟨Nat.le_of_ble_eq_true rfl, Nat.le_of_ble_eq_true rfl⟩ (aw_rs ?_)
          refine aw_if_ne (n2 := 50) X dX4_breachWith_45 rfl rfl (fun c45 => ?_) (fun c45 => ?_)
          · refine aw_ald0 X dX4_breachWith_50 rfl ?_
            refine aw_get X fd_X4_15 dX4_breachWith_51 rfl hs rfl ?_
            refine aw_ald0 X dX4_breachWith_54 rfl ?_
            refine aw_callV X dX4_breachWith_55 rfl (k_X4_part X.1 hs) cmX4_part ml_X4_46 rfl hs rfl rfl (Nat.le_of_ble_eq_true rfl) ⟨Nat.le_of_ble_eq_true rfl, Nat.le_of_ble_eq_true rfl⟩ (aw_rs ?_)
            refine aw_iconst X (1) dX4_breachWith_58 (by decide) rfl ?_
            refine aw_iadd X dX4_breachWith_59 rfl ?_
            refine aw_icmp_le (n2 := 65) X dX4_breachWith_60 rfl rfl (fun c60 => ?_) (fun c60 => ?_)
            · refine aw_ald0 X dX4_breachWith_65 rfl ?_
              refine aw_callV X dX4_breachWith_66 rfl (k_X4_end X.1 hs) cmX4_end ml_X4_50 rfl hs rfl rfl (Nat.le_of_ble_eq_true rfl) ⟨Nat.le_of_ble_eq_true rfl, Nat.le_of_ble_eq_true rfl⟩ (aw_rs ?_)
              refine aw_sipush X (540) dX4_breachWith_69 (by decide) rfl ?_
              refine aw_icmp_le (n2 := 79) X dX4_breachWith_72 rfl rfl (fun c72 => ?_) (fun c72 => ?_)
              · refine aw_iconst X (0) dX4_breachWith_79 (by decide) rfl ?_
                exact aw_iret X hret rfl dX4_breachWith_80 (⟨by unfold bw; first | (simp_all [bI_0, Int32.not_lt, Int32.not_le]; done) | (simp_all [bI_0, Int32.not_lt, Int32.not_le]; grind), rfl⟩)
              · refine aw_iconst X (5) dX4_breachWith_75 (by decide) rfl ?_
                refine aw_goto (n := 80) X dX4_breachWith_76 rfl ?_
                exact aw_iret X hret rfl dX4_breachWith_80 (⟨by unfold bw; first | (simp_all [bI_0, Int32.not_lt, Int32.not_le]; done) | (simp_all [bI_0, Int32.not_lt, Int32.not_le]; grind), rfl⟩)
            · refine aw_iconst X (4) dX4_breachWith_63 (by decide) rfl ?_
              exact aw_iret X hret rfl dX4_breachWith_64 (⟨by unfold bw; first | (simp_all [bI_0, Int32.not_lt, Int32.not_le]; done) | (simp_all [bI_0, Int32.not_lt, Int32.not_le]; grind), rfl⟩)
          · refine aw_iconst X (3) dX4_breachWith_48 (by decide) rfl ?_
            exact aw_iret X hret rfl dX4_breachWith_49 (⟨by unfold bw; first | (simp_all [bI_0, Int32.not_lt, Int32.not_le]; done) | (simp_all [bI_0, Int32.not_lt, Int32.not_le]; grind), rfl⟩)
      · refine aw_iconst X (2) dX4_breachWith_27 (by decide) rfl ?_
        exact aw_iret X hret rfl dX4_breachWith_28 (⟨by unfold bw; first | (simp_all [bI_0, Int32.not_lt, Int32.not_le]; done) | (simp_all [bI_0, Int32.not_lt, Int32.not_le]; grind), rfl⟩)
    · refine aw_iconst X (1) dX4_breachWith_17 (by decide) rfl ?_
      exact aw_iret X hret rfl dX4_breachWith_18 (⟨by unfold bw; first | (simp_all [bI_0, Int32.not_lt, Int32.not_le]; done) | (simp_all [bI_0, Int32.not_lt, Int32.not_le]; grind), rfl⟩)

set_option maxHeartbeats 4000000 in
set_option maxRecDepth 100000 in
theorem k_X4_value {l : Launch} {s0 : State} {a0 : Array Value} {G : GG} (X : CX l s0 a0 G) {h : AH} {a t tg : Nat} {s9 x9 : Nat → Int32} (hs : h a = some (t, cScn s9 x9)) (q : Int32) : Con l s0 G yX4_value cX4_value 2 (some .int) 2 0 0 tg [.ref a, .int q] h (RS (.int (svl s9 x9 q)) h) := by
  refine Con.of X (by decide +kernel) [some (.ref a), some (.int q)] rfl (Nat.le_of_ble_eq_true rfl) (fun p e s m below meth c X hnm hret => ?_)
  refine aw_ild1 X dX4_value_0 rfl ?_
  by_cases s1_0 : q = 0
  · refine aw_tswIn (n := 48) X 0 dX4_value_1 (by rw [s1_0]; decide) (by decide) rfl rfl ?_
    refine aw_ald0 X dX4_value_48 rfl ?_
    refine aw_get X fd_X4_9 dX4_value_49 rfl hs rfl ?_
    exact aw_iret X hret rfl dX4_value_52 (⟨by first | (simp_all [svl, bI_0, bI_ne, Int32.not_lt, Int32.not_le]; done) | grind [bI, bI_0, bI_ne, svl], rfl⟩)
  · skip
    by_cases s1_1 : q = 1
    · refine aw_tswIn (n := 53) X 1 dX4_value_1 (by rw [s1_1]; decide) (by decide) rfl rfl ?_
      refine aw_ald0 X dX4_value_53 rfl ?_
      refine aw_get X fd_X4_15 dX4_value_54 rfl hs rfl ?_
      exact aw_iret X hret rfl dX4_value_57 (⟨by first | (simp_all [svl, bI_0, bI_ne, Int32.not_lt, Int32.not_le]; done) | grind [bI, bI_0, bI_ne, svl], rfl⟩)
    · skip
      by_cases s1_2 : q = 2
      · refine aw_tswIn (n := 58) X 2 dX4_value_1 (by rw [s1_2]; decide) (by decide) rfl rfl ?_
        refine aw_ald0 X dX4_value_58 rfl ?_
        refine aw_get X fd_X4_18 dX4_value_59 rfl hs rfl ?_
        exact aw_iret X hret rfl dX4_value_62 (⟨by first | (simp_all [svl, bI_0, bI_ne, Int32.not_lt, Int32.not_le]; done) | grind [bI, bI_0, bI_ne, svl], rfl⟩)
      · skip
        by_cases s1_3 : q = 3
        · refine aw_tswIn (n := 63) X 3 dX4_value_1 (by rw [s1_3]; decide) (by decide) rfl rfl ?_
          refine aw_ald0 X dX4_value_63 rfl ?_
          refine aw_get X fd_X4_21 dX4_value_64 rfl hs rfl ?_
          exact aw_iret X hret rfl dX4_value_67 (⟨by first | (simp_all [svl, bI_0, bI_ne, Int32.not_lt, Int32.not_le]; done) | grind [bI, bI_0, bI_ne, svl], rfl⟩)
        · skip
          by_cases s1_4 : q = 4
          · refine aw_tswIn (n := 68) X 4 dX4_value_1 (by rw [s1_4]; decide) (by decide) rfl rfl ?_
            refine aw_ald0 X dX4_value_68 rfl ?_
            refine aw_get X fd_X4_24 dX4_value_69 rfl hs rfl ?_
            exact aw_iret X hret rfl dX4_value_72 (⟨by first | (simp_all [svl, bI_0, bI_ne, Int32.not_lt, Int32.not_le]; done) | grind [bI, bI_0, bI_ne, svl], rfl⟩)
          · skip
            by_cases s1_5 : q = 5
            · refine aw_tswIn (n := 73) X 5 dX4_value_1 (by rw [s1_5]; decide) (by decide) rfl rfl ?_
              refine aw_ald0 X dX4_value_73 rfl ?_
              refine aw_get X fd_X4_27 dX4_value_74 rfl hs rfl ?_
              exact aw_iret X hret rfl dX4_value_77 (⟨by first | (simp_all [svl, bI_0, bI_ne, Int32.not_lt, Int32.not_le]; done) | grind [bI, bI_0, bI_ne, svl], rfl⟩)
            · skip
              by_cases s1_6 : q = 6
              · refine aw_tswIn (n := 78) X 6 dX4_value_1 (by rw [s1_6]; decide) (by decide) rfl rfl ?_
                refine aw_ald0 X dX4_value_78 rfl ?_
                refine aw_get X fd_X4_33 dX4_value_79 rfl hs rfl ?_
                exact aw_iret X hret rfl dX4_value_82 (⟨by first | (simp_all [svl, bI_0, bI_ne, Int32.not_lt, Int32.not_le]; done) | grind [bI, bI_0, bI_ne, svl], rfl⟩)
              · skip
                by_cases s1_7 : q = 7
                · refine aw_tswIn (n := 83) X 7 dX4_value_1 (by rw [s1_7]; decide) (by decide) rfl rfl ?_
                  refine aw_ald0 X dX4_value_83 rfl ?_
                  refine aw_callV X dX4_value_84 rfl (k_X4_part X.1 hs) cmX4_part ml_X4_46 rfl hs rfl rfl (Nat.le_of_ble_eq_true rfl) ⟨Nat.le_of_ble_eq_true rfl, Nat.le_of_ble_eq_true rfl⟩ (aw_rs ?_)
                  exact aw_iret X hret rfl dX4_value_87 (⟨by first | (simp_all [svl, bI_0, bI_ne, Int32.not_lt, Int32.not_le]; done) | grind [bI, bI_0, bI_ne, svl], rfl⟩)
                · skip
                  refine aw_tswOut (n := 88) X dX4_value_1 (tsw_out (fun q h1 h2 e => by
                    have hq : q = 0 ∨ q = 1 ∨ q = 2 ∨ q = 3 ∨ q = 4 ∨ q = 5 ∨ q = 6 ∨ q = 7 := by omega
                    rcases hq with rfl | rfl | rfl | rfl | rfl | rfl | rfl | rfl
                    · exact s1_0 e
                    · exact s1_1 e
                    · exact s1_2 e
                    · exact s1_3 e
                    · exact s1_4 e
                    · exact s1_5 e
                    · exact s1_6 e
                    · exact s1_7 e)) rfl ?_
                  refine aw_ald0 X dX4_value_88 rfl ?_
                  refine aw_get X fd_X4_53 dX4_value_89 rfl hs rfl ?_
                  exact aw_iret X hret rfl dX4_value_92 (⟨by first | (simp_all [svl, bI_0, bI_ne, Int32.not_lt, Int32.not_le]; done) | grind [bI, bI_0, bI_ne, svl], rfl⟩)

/-- the plot pl: its persons (list Lp), its scenes (list Ls), who knew first, how many breaches, its end -/
def PlW (G : GG) (h : AH) (tg pl Lp edp capp : Nat) (mdp : Int32) (np : Nat) (gp : Nat → Option Nat) (pa : Nat → Nat) (P : Nat → Nat → Int32) (Ls eds caps : Nat) (mds : Int32) (ns : Nat) (gs : Nat → Option Nat) (sa : Nat → Nat) (S Xc : Nat → Nat → Int32) (kf br en : Int32) : Prop :=
  h pl = some (tg, .inr (5, [.ref Lp, .ref Ls, .int kf, .int br, .int en])) ∧ LI G h tg Lp np gp edp capp mdp ∧ LI G h tg Ls ns gs eds caps mds ∧ (∀ k, k < np → gp k = some (pa k) ∧ h (pa k) = some (tg, oPer (P k))) ∧ (∀ k, k < ns → gs k = some (sa k) ∧ h (sa k) = some (tg, cScn (S k) (Xc k))) ∧ np ≤ 8 ∧ ns ≤ 10 ∧ (∀ j k, j < ns → k < ns → sa j = sa k → j = k) ∧ Lp ≠ Ls ∧ (capp ≠ 0 → caps ≠ 0 → edp ≠ eds)
theorem PlW.putS {G : GG} {h : AH} {tg pl Lp edp capp np Ls eds caps ns : Nat} {mdp mds kf br en : Int32} {gp gs : Nat → Option Nat} {pa sa : Nat → Nat} {P S Xc : Nat → Nat → Int32} (w : PlW G h tg pl Lp edp capp mdp np gp pa P Ls eds caps mds ns gs sa S Xc kf br en) {k : Nat} (hk : k < ns) (s x : Nat → Int32) : PlW G (hu h (sa k) (tg, cScn s x)) tg pl Lp edp capp mdp np gp pa P Ls eds caps mds ns gs sa (upF S k s) (upF Xc k x) kf br en := by
  obtain ⟨h1, h2, h3, h4, h5, h6, h7, h8, h9, h10⟩ := w
  have hf := (h5 k hk).2
  refine ⟨(hu_n (ne_at h1 hf (fun e => by cases e))).trans h1, h2.kept (hu_n (h2.nl hf (fun _ _ _ e => by cases e)).symm) (hu_n (h2.ned hf (fun _ _ e => by cases e)).symm), h3.kept (hu_n (h3.nl hf (fun _ _ _ e => by cases e)).symm) (hu_n (h3.ned hf (fun _ _ e => by cases e)).symm), fun i hi => ⟨(h4 i hi).1, (hu_n (ne_at (h4 i hi).2 hf (fun e => by cases e))).trans (h4 i hi).2⟩, fun i hi => ⟨(h5 i hi).1, ?_⟩, h6, h7, h8, h9, h10⟩
  by_cases q : i = k
  · subst q
    rw [hu_s]
    show _ = some (tg, cScn (if i = i then s else S i) (if i = i then x else Xc i))
    rw [if_pos rfl, if_pos rfl]
  · rw [hu_n (fun e => q (h8 i k hi hk e))]
    show _ = some (tg, cScn (if i = k then s else S i) (if i = k then x else Xc i))
    rw [if_neg q, if_neg q]
    exact (h5 i hi).2
theorem PlW.br {G : GG} {h : AH} {tg pl Lp edp capp np Ls eds caps ns : Nat} {mdp mds kf br br2 en : Int32} {gp gs : Nat → Option Nat} {pa sa : Nat → Nat} {P S Xc : Nat → Nat → Int32} (e : br = br2) (w : PlW G h tg pl Lp edp capp mdp np gp pa P Ls eds caps mds ns gs sa S Xc kf br en) : PlW G h tg pl Lp edp capp mdp np gp pa P Ls eds caps mds ns gs sa S Xc kf br2 en := e ▸ w
theorem PlW.putP {G : GG} {h : AH} {tg pl Lp edp capp np Ls eds caps ns : Nat} {mdp mds kf br en : Int32} {gp gs : Nat → Option Nat} {pa sa : Nat → Nat} {P S Xc : Nat → Nat → Int32} (w : PlW G h tg pl Lp edp capp mdp np gp pa P Ls eds caps mds ns gs sa S Xc kf br en) (kf2 br2 en2 : Int32) : PlW G (hu h pl (tg, .inr (5, [.ref Lp, .ref Ls, .int kf2, .int br2, .int en2]))) tg pl Lp edp capp mdp np gp pa P Ls eds caps mds ns gs sa S Xc kf2 br2 en2 := by
  obtain ⟨h1, h2, h3, h4, h5, h6⟩ := w
  exact ⟨hu_s, h2.kept (hu_n (h2.nl h1 (fun _ _ _ e => by cases e)).symm) (hu_n (h2.ned h1 (fun _ _ e => by cases e)).symm), h3.kept (hu_n (h3.nl h1 (fun _ _ _ e => by cases e)).symm) (hu_n (h3.ned h1 (fun _ _ e => by cases e)).symm), fun i hi => ⟨(h4 i hi).1, (hu_n (ne_at (h4 i hi).2 h1 (fun e => by cases e))).trans (h4 i hi).2⟩, fun i hi => ⟨(h5 i hi).1, (hu_n (ne_at (h5 i hi).2 h1 (fun e => by cases e))).trans (h5 i hi).2⟩, h6⟩
/-! what the plot says, scene by scene -/
def rB (S : Nat → Nat → Int32) : Nat → Int32
  | 0 => 0
  | k + 1 => rB S k + S k 3
def rK (S : Nat → Nat → Int32) (kf : Int32) : Nat → Int32
  | 0 => kf
  | k + 1 => if holdsP (rK S kf k) (S k 5) then rK S kf k ||| S k 2 else rK S kf k
def deadS (S : Nat → Nat → Int32) (yr : Int32) (k : Nat) : Int32 := fo (fun i u => if ¬ S i 4 = -1 ∧ S i 0 ≤ yr then u ||| ((1 : Int32) <<< (S i 4 &&& 31)) else u) 0 k
def rBr (S : Nat → Nat → Int32) (cb : Nat → Int32) (kf : Int32) (k : Nat) : Int32 := bw (S k) (cb k) (rB S k) (deadS S (S k 0) k) (rK S kf k)
def rN (S : Nat → Nat → Int32) (cb : Nat → Int32) (kf : Int32) (k : Nat) : Int32 := fo (fun i u => if ¬ rBr S cb kf i = 0 then u + 1 else u) 0 k
def rX (S : Nat → Nat → Int32) (cb : Nat → Int32) (kf : Int32) (k : Nat) : Nat → Int32 := fun i => if i = 0 then cb k else if i = 1 then rB S k else if i = 2 then rBr S cb kf k else rK S kf (k + 1)
def bcS (P : Nat → Nat → Int32) (yr ca di : Int32) : Nat → Nat → Int32 → Int32
  | 0, _, u => u
  | j + 1, k, u => if holdsP ca (nI k) ∧ ¬ (P k 3 ≤ yr ∧ yr ≤ P k 4) then 1 else bcS P yr ca di j (k + 1) (if nI k = di ∧ ¬ P k 4 = yr then 2 else u)

set_option maxHeartbeats 4000000 in
set_option maxRecDepth 100000 in
theorem k_X3_isCast {l : Launch} {s0 : State} {a0 : Array Value} {G : GG} (X : CX l s0 a0 G) {h : AH} {tw tg pl Lp edp capp np Ls eds caps ns : Nat} {mdp mds kf br en : Int32} {gp gs : Nat → Option Nat} {pa sa : Nat → Nat} {P S Xc : Nat → Nat → Int32} (w : PlW G h tw pl Lp edp capp mdp np gp pa P Ls eds caps mds ns gs sa S Xc kf br en) (ca : Int32) : Con l s0 G yX3_isCast cX3_isCast 2 (some .boolean) 1 0 0 tg [.ref pl, .int ca] h (RS (.int (bI (0 < ca ∧ ca < (1 : Int32) <<< (nI np &&& 31)))) h) := by
  refine Con.of X (by decide +kernel) [some (.ref pl), some (.int ca)] rfl (Nat.le_of_ble_eq_true rfl) (fun p e s m below meth c X hnm hret => ?_)
  have w0 := w
  obtain ⟨hpl, hlp, hls, hP, hS, hn8, hn10, hinj, hpp, hee⟩ := w
  refine aw_ild1 X dX3_isCast_0 rfl ?_
  refine aw_if_le (n2 := 21) X dX3_isCast_1 rfl rfl (fun c1 => ?_) (fun c1 => ?_)
  · refine aw_iconst X (0) dX3_isCast_21 (by decide) rfl ?_
    exact aw_iret X hret rfl dX3_isCast_22 (⟨by first | (simp_all [bI, bI_0, bI_ne, Int32.not_lt, Int32.not_le]; done) | grind [bI, bI_0, bI_ne], rfl⟩)
  · refine aw_ild1 X dX3_isCast_4 rfl ?_
    refine aw_iconst X (1) dX3_isCast_5 (by decide) rfl ?_
    refine aw_ald0 X dX3_isCast_6 rfl ?_
    refine aw_get X fd_X3_12 dX3_isCast_7 rfl hpl rfl ?_
    refine aw_callV X dX3_isCast_10 rfl (k_size X.1 hlp) cmJx4a65c_size_8abf5 ml_X3_31 rfl hlp.1 rfl rfl (Nat.le_of_ble_eq_true rfl) ⟨Nat.le_of_ble_eq_true rfl, Nat.le_of_ble_eq_true rfl⟩ (aw_rs ?_)
    refine aw_ishl X dX3_isCast_13 rfl ?_
    refine aw_icmp_ge (n2 := 21) X dX3_isCast_14 rfl rfl (fun c14 => ?_) (fun c14 => ?_)
    · refine aw_iconst X (0) dX3_isCast_21 (by decide) rfl ?_
      exact aw_iret X hret rfl dX3_isCast_22 (⟨by first | (simp_all [bI, bI_0, bI_ne, Int32.not_lt, Int32.not_le]; done) | grind [bI, bI_0, bI_ne], rfl⟩)
    · refine aw_iconst X (1) dX3_isCast_17 (by decide) rfl ?_
      refine aw_goto (n := 22) X dX3_isCast_18 rfl ?_
      exact aw_iret X hret rfl dX3_isCast_22 (⟨by first | (simp_all [bI, bI_0, bI_ne, Int32.not_lt, Int32.not_le]; done) | grind [bI, bI_0, bI_ne], rfl⟩)

set_option maxHeartbeats 4000000 in
set_option maxRecDepth 100000 in
theorem k_X3_sceneOn {l : Launch} {s0 : State} {a0 : Array Value} {G : GG} (X : CX l s0 a0 G) {h : AH} {tw tg pl Lp edp capp np Ls eds caps ns : Nat} {mdp mds kf br en : Int32} {gp gs : Nat → Option Nat} {pa sa : Nat → Nat} {P S Xc : Nat → Nat → Int32} (w : PlW G h tw pl Lp edp capp mdp np gp pa P Ls eds caps mds ns gs sa S Xc kf br en) (mi : Int32) : Con l s0 G yX3_sceneOn cX3_sceneOn 3 (some .int) 3 0 0 tg [.ref pl, .int mi] h (RS (.int (ff (fun k => mi < Xc k 1 + S k 3) ns 0)) h) := by
  refine Con.of X (by decide +kernel) [some (.ref pl), some (.int mi), none] rfl (Nat.le_of_ble_eq_true rfl) (fun p e s m below meth c X hnm hret => ?_)
  have w0 := w
  obtain ⟨hpl, hlp, hls, hP, hS, hn8, hn10, hinj, hpp, hee⟩ := w
  refine aw_iconst X (0) dX3_sceneOn_0 (by decide) rfl ?_
  refine aw_ist2 X dX3_sceneOn_1 rfl (by decide) rfl ?_
  refine aw_dn (n := ns) (A := fun j k => ∀ (x : Int32), (x = nI k) → (ff (fun k => mi < Xc k 1 + S k 3) ns 0 = ff (fun k => mi < Xc k 1 + S k 3) j k) → AW p l e _ s m _ below meth c _ s0 G 3 tg _ h _ _ 2 [some (.ref pl), some (.int mi), some (.int x)] []) ?_ ?_ ns 0 rfl 0 nI_0.symm rfl
  · intro x hx hI
    refine aw_ild2 X dX3_sceneOn_2 rfl ?_
    refine aw_ald0 X dX3_sceneOn_3 rfl ?_
    refine aw_get X fd_X3_18 dX3_sceneOn_4 rfl hpl rfl ?_
    refine aw_callV X dX3_sceneOn_7 rfl (k_size X.1 hls) cmJx4a65c_size_8abf5 ml_X3_31 rfl hls.1 rfl rfl (Nat.le_of_ble_eq_true rfl) ⟨Nat.le_of_ble_eq_true rfl, Nat.le_of_ble_eq_true rfl⟩ (aw_rs ?_)
    refine aw_icmp_ge (n2 := 39) X dX3_sceneOn_10 rfl rfl (fun c10 => ?_) (fun c10 => absurd (ge_t hx (Nat.le_refl _) (by omega)) c10)
    refine aw_iconst X (-1) dX3_sceneOn_39 (by decide) rfl ?_
    exact aw_iret X hret rfl dX3_sceneOn_40 (⟨by rw [hI]; rfl, rfl⟩)
  · intro j k hjk ih x hx hI
    refine aw_ild2 X dX3_sceneOn_2 rfl ?_
    refine aw_ald0 X dX3_sceneOn_3 rfl ?_
    refine aw_get X fd_X3_18 dX3_sceneOn_4 rfl hpl rfl ?_
    refine aw_callV X dX3_sceneOn_7 rfl (k_size X.1 hls) cmJx4a65c_size_8abf5 ml_X3_31 rfl hls.1 rfl rfl (Nat.le_of_ble_eq_true rfl) ⟨Nat.le_of_ble_eq_true rfl, Nat.le_of_ble_eq_true rfl⟩ (aw_rs ?_)
    refine aw_icmp_ge (n2 := 39) X dX3_sceneOn_10 rfl rfl (fun c10 => absurd c10 (ge_f hx (by omega) (by omega))) (fun c10 => ?_)
    refine aw_ild1 X dX3_sceneOn_13 rfl ?_
    refine aw_ald0 X dX3_sceneOn_14 rfl ?_
    refine aw_get X fd_X3_18 dX3_sceneOn_15 rfl hpl rfl ?_
    refine aw_ild2 X dX3_sceneOn_18 rfl ?_
    refine aw_callV X dX3_sceneOn_19 rfl (k_lget X.1 hls hx (by omega) (hS k (by omega)).1) cmJx4a65c_get_915e3 ml_X3_56 rfl hls.1 rfl rfl (Nat.le_of_ble_eq_true rfl) ⟨Nat.le_of_ble_eq_true rfl, Nat.le_of_ble_eq_true rfl⟩ (aw_rs ?_)
    refine aw_cast X dX3_sceneOn_22 rfl rfl cc_X3_51 (hS k (by omega)).2 ?_
    refine aw_callV X dX3_sceneOn_25 rfl (k_X4_end X.1 (hS k (by omega)).2) cmX4_end ml_X3_70 rfl (hS k (by omega)).2 rfl rfl (Nat.le_of_ble_eq_true rfl) ⟨Nat.le_of_ble_eq_true rfl, Nat.le_of_ble_eq_true rfl⟩ (aw_rs ?_)
    refine aw_icmp_ge (n2 := 33) X dX3_sceneOn_28 rfl rfl (fun c28 => ?_) (fun c28 => ?_)
    · refine aw_iinc2 X (1) dX3_sceneOn_33 (by decide) rfl (by decide) rfl ?_
      refine aw_goto (n := 2) X dX3_sceneOn_36 rfl ?_
      exact ih (x + 1) (nx hx) (hI.trans (if_neg (Int32.not_lt.mpr c28)))
    · refine aw_ild2 X dX3_sceneOn_31 rfl ?_
      exact aw_iret X hret rfl dX3_sceneOn_32 (⟨by rw [hI, hx]; exact congrArg _ (congrArg _ (if_pos (Int32.not_le.mp c28))), rfl⟩)

set_option maxHeartbeats 4000000 in
set_option maxRecDepth 100000 in
theorem k_knB {l : Launch} {s0 : State} {a0 : Array Value} {G : GG} (X : CX l s0 a0 G) {h : AH} {tw tg pl Lp edp capp np Ls eds caps ns : Nat} {mdp mds kf br en : Int32} {gp gs : Nat → Option Nat} {pa sa : Nat → Nat} {P S Xc : Nat → Nat → Int32} (w : PlW G h tw pl Lp edp capp mdp np gp pa P Ls eds caps mds ns gs sa S Xc kf br en) {i : Int32} {k : Nat} (hi : i = nI k) (hk : k < ns) : Con l s0 G yX3_knowersBehind cX3_knowersBehind 2 (some .int) 3 0 0 tg [.ref pl, .int i] h (RS (.int (Xc k 3)) h) := by
  refine Con.of X (by decide +kernel) [some (.ref pl), some (.int i)] rfl (Nat.le_of_ble_eq_true rfl) (fun p e s m below meth c X hnm hret => ?_)
  have w0 := w
  obtain ⟨hpl, hlp, hls, hP, hS, hn8, hn10, hinj, hpp, hee⟩ := w
  refine aw_ild1 X dX3_knowersBehind_0 rfl ?_
  refine aw_if_lt (n2 := 15) X dX3_knowersBehind_1 rfl rfl (fun c1 => absurd c1 (by rw [hi]; exact nI_pos (by omega))) (fun c1 => ?_)
  refine aw_ild1 X dX3_knowersBehind_4 rfl ?_
  refine aw_ald0 X dX3_knowersBehind_5 rfl ?_
  refine aw_get X fd_X3_18 dX3_knowersBehind_6 rfl hpl rfl ?_
  refine aw_callV X dX3_knowersBehind_9 rfl (k_size X.1 hls) cmJx4a65c_size_8abf5 ml_X3_31 rfl hls.1 rfl rfl (Nat.le_of_ble_eq_true rfl) ⟨Nat.le_of_ble_eq_true rfl, Nat.le_of_ble_eq_true rfl⟩ (aw_rs ?_)
  refine aw_icmp_lt (n2 := 20) X dX3_knowersBehind_12 rfl rfl (fun c12 => ?_) (fun c12 => absurd (by rw [hi]; exact nI_lt hk (by omega)) c12)
  refine aw_ald0 X dX3_knowersBehind_20 rfl ?_
  refine aw_get X fd_X3_18 dX3_knowersBehind_21 rfl hpl rfl ?_
  refine aw_ild1 X dX3_knowersBehind_24 rfl ?_
  refine aw_callV X dX3_knowersBehind_25 rfl (k_lget X.1 hls hi hk (hS k hk).1) cmJx4a65c_get_915e3 ml_X3_56 rfl hls.1 rfl rfl (Nat.le_of_ble_eq_true rfl) ⟨Nat.le_of_ble_eq_true rfl, Nat.le_of_ble_eq_true rfl⟩ (aw_rs ?_)
  refine aw_cast X dX3_knowersBehind_28 rfl rfl cc_X3_51 (hS k hk).2 ?_
  refine aw_get X fd_X3_72 dX3_knowersBehind_31 rfl (hS k hk).2 rfl ?_
  exact aw_iret X hret rfl dX3_knowersBehind_34 (⟨rfl, rfl⟩)

set_option maxHeartbeats 4000000 in
set_option maxRecDepth 100000 in
theorem k_knB0 {l : Launch} {s0 : State} {a0 : Array Value} {G : GG} (X : CX l s0 a0 G) {h : AH} {tw tg pl Lp edp capp np Ls eds caps ns : Nat} {mdp mds kf br en : Int32} {gp gs : Nat → Option Nat} {pa sa : Nat → Nat} {P S Xc : Nat → Nat → Int32} (w : PlW G h tw pl Lp edp capp mdp np gp pa P Ls eds caps mds ns gs sa S Xc kf br en)  : Con l s0 G yX3_knowersBehind cX3_knowersBehind 2 (some .int) 3 0 0 tg [.ref pl, .int (-1)] h (RS (.int kf) h) := by
  refine Con.of X (by decide +kernel) [some (.ref pl), some (.int (-1))] rfl (Nat.le_of_ble_eq_true rfl) (fun p e s m below meth c X hnm hret => ?_)
  have w0 := w
  obtain ⟨hpl, hlp, hls, hP, hS, hn8, hn10, hinj, hpp, hee⟩ := w
  refine aw_ild1 X dX3_knowersBehind_0 rfl ?_
  refine aw_if_lt (n2 := 15) X dX3_knowersBehind_1 rfl rfl (fun c1 => ?_) (fun c1 => absurd (by decide) c1)
  refine aw_ald0 X dX3_knowersBehind_15 rfl ?_
  refine aw_get X fd_X3_21 dX3_knowersBehind_16 rfl hpl rfl ?_
  exact aw_iret X hret rfl dX3_knowersBehind_19 (⟨rfl, rfl⟩)

set_option maxHeartbeats 4000000 in
set_option maxRecDepth 100000 in
theorem k_X3_deadIn {l : Launch} {s0 : State} {a0 : Array Value} {G : GG} (X : CX l s0 a0 G) {h : AH} {tw tg pl Lp edp capp np Ls eds caps ns : Nat} {mdp mds kf br en : Int32} {gp gs : Nat → Option Nat} {pa sa : Nat → Nat} {P S Xc : Nat → Nat → Int32} (w : PlW G h tw pl Lp edp capp mdp np gp pa P Ls eds caps mds ns gs sa S Xc kf br en) (yr : Int32) {m9 : Nat} {i9 : Int32} (hi9 : i9 = nI m9) (hm9 : m9 ≤ ns) : Con l s0 G yX3_deadIn cX3_deadIn 6 (some .int) 3 0 0 tg [.ref pl, .int yr, .int i9] h (RS (.int (deadS S yr m9)) h) := by
  refine Con.of X (by decide +kernel) [some (.ref pl), some (.int yr), some (.int i9), none, none, none] rfl (Nat.le_of_ble_eq_true rfl) (fun p e s m below meth c X hnm hret => ?_)
  have w0 := w
  obtain ⟨hpl, hlp, hls, hP, hS, hn8, hn10, hinj, hpp, hee⟩ := w
  refine aw_iconst X (0) dX3_deadIn_0 (by decide) rfl ?_
  refine aw_ist3 X dX3_deadIn_1 rfl (by decide) rfl ?_
  refine aw_iconst X (0) dX3_deadIn_2 (by decide) rfl ?_
  refine aw_ist4 X dX3_deadIn_3 rfl (by decide) rfl ?_
  refine aw_dn (n := m9) (A := fun j k => ∀ (y5 : Option Value), ∀ (x : Int32), ∀ (u : Int32), (x = nI k) → (u = deadS S yr k) → AW p l e _ s m _ below meth c _ s0 G 6 tg _ h _ _ 5 [some (.ref pl), some (.int yr), some (.int i9), some (.int u), some (.int x), y5] []) ?_ ?_ m9 0 rfl none 0 0 nI_0.symm rfl
  · intro y5 x u hx hI
    refine aw_ild4 X dX3_deadIn_5 rfl ?_
    refine aw_ild2 X dX3_deadIn_7 rfl ?_
    refine aw_icmp_ge (n2 := 71) X dX3_deadIn_8 rfl rfl (fun c8 => ?_) (fun c8 => absurd (by rw [hx, hi9]; exact Int32.le_refl _) c8)
    refine aw_ild3 X dX3_deadIn_71 rfl ?_
    exact aw_iret X hret rfl dX3_deadIn_72 (⟨by rw [hI], rfl⟩)
  · intro j k hjk ih y5 x u hx hI
    refine aw_ild4 X dX3_deadIn_5 rfl ?_
    refine aw_ild2 X dX3_deadIn_7 rfl ?_
    refine aw_icmp_ge (n2 := 71) X dX3_deadIn_8 rfl rfl (fun c8 => absurd c8 (by rw [hx, hi9]; exact nI_ge (by omega) (by omega))) (fun c8 => ?_)
    refine aw_ild4 X dX3_deadIn_11 rfl ?_
    refine aw_ald0 X dX3_deadIn_13 rfl ?_
    refine aw_get X fd_X3_18 dX3_deadIn_14 rfl hpl rfl ?_
    refine aw_callV X dX3_deadIn_17 rfl (k_size X.1 hls) cmJx4a65c_size_8abf5 ml_X3_31 rfl hls.1 rfl rfl (Nat.le_of_ble_eq_true rfl) ⟨Nat.le_of_ble_eq_true rfl, Nat.le_of_ble_eq_true rfl⟩ (aw_rs ?_)
    refine aw_icmp_ge (n2 := 71) X dX3_deadIn_20 rfl rfl (fun c20 => absurd c20 (ge_f hx (by omega) (by omega))) (fun c20 => ?_)
    refine aw_ald0 X dX3_deadIn_23 rfl ?_
    refine aw_get X fd_X3_18 dX3_deadIn_24 rfl hpl rfl ?_
    refine aw_ild4 X dX3_deadIn_27 rfl ?_
    refine aw_callV X dX3_deadIn_29 rfl (k_lget X.1 hls hx (by omega) (hS k (by omega)).1) cmJx4a65c_get_915e3 ml_X3_56 rfl hls.1 rfl rfl (Nat.le_of_ble_eq_true rfl) ⟨Nat.le_of_ble_eq_true rfl, Nat.le_of_ble_eq_true rfl⟩ (aw_rs ?_)
    refine aw_cast X dX3_deadIn_32 rfl rfl cc_X3_51 (hS k (by omega)).2 ?_
    refine aw_ast5 X dX3_deadIn_35 rfl (by decide) rfl ?_
    refine aw_ald5 X dX3_deadIn_37 rfl ?_
    refine aw_get X fd_X3_105 dX3_deadIn_39 rfl (hS k (by omega)).2 rfl ?_
    refine aw_iconst X (-1) dX3_deadIn_42 (by decide) rfl ?_
    refine aw_icmp_eq (n2 := 65) X dX3_deadIn_43 rfl rfl (fun c43 => ?_) (fun c43 => ?_)
    · refine aw_iinc4 X (1) dX3_deadIn_65 (by decide) rfl (by decide) rfl ?_
      refine aw_goto (n := 5) X dX3_deadIn_68 rfl ?_
      exact ih _ (x + 1) u (nx hx) (by rw [hI]; exact (if_neg (fun q => q.1 c43)).symm)
    · refine aw_ald5 X dX3_deadIn_46 rfl ?_
      refine aw_get X fd_X3_82 dX3_deadIn_48 rfl (hS k (by omega)).2 rfl ?_
      refine aw_ild1 X dX3_deadIn_51 rfl ?_
      refine aw_icmp_gt (n2 := 65) X dX3_deadIn_52 rfl rfl (fun c52 => ?_) (fun c52 => ?_)
      · refine aw_iinc4 X (1) dX3_deadIn_65 (by decide) rfl (by decide) rfl ?_
        refine aw_goto (n := 5) X dX3_deadIn_68 rfl ?_
        exact ih _ (x + 1) u (nx hx) (by rw [hI]; exact (if_neg (fun q => Int32.not_le.mpr c52 q.2)).symm)
      · refine aw_ild3 X dX3_deadIn_55 rfl ?_
        refine aw_iconst X (1) dX3_deadIn_56 (by decide) rfl ?_
        refine aw_ald5 X dX3_deadIn_57 rfl ?_
        refine aw_get X fd_X3_105 dX3_deadIn_59 rfl (hS k (by omega)).2 rfl ?_
        refine aw_ishl X dX3_deadIn_62 rfl ?_
        refine aw_ior X dX3_deadIn_63 rfl ?_
        refine aw_ist3 X dX3_deadIn_64 rfl (by decide) rfl ?_
        refine aw_iinc4 X (1) dX3_deadIn_65 (by decide) rfl (by decide) rfl ?_
        refine aw_goto (n := 5) X dX3_deadIn_68 rfl ?_
        exact ih _ (x + 1) _ (nx hx) (by rw [hI]; exact (if_pos ⟨c43, Int32.not_lt.mp c52⟩).symm)

set_option maxHeartbeats 4000000 in
set_option maxRecDepth 100000 in
theorem k_X3_breachOfCycle {l : Launch} {s0 : State} {a0 : Array Value} {G : GG} (X : CX l s0 a0 G) {h : AH} {tw tg pl Lp edp capp np Ls eds caps ns : Nat} {mdp mds kf br en : Int32} {gp gs : Nat → Option Nat} {pa sa : Nat → Nat} {P S Xc : Nat → Nat → Int32} (w : PlW G h tw pl Lp edp capp mdp np gp pa P Ls eds caps mds ns gs sa S Xc kf br en) (yr ca di : Int32) : Con l s0 G yX3_breachOfCycle cX3_breachOfCycle 7 (some .int) 3 0 0 tg [.ref pl, .int yr, .int ca, .int di] h (RS (.int (bcS P yr ca di np 0 0)) h) := by
  refine Con.of X (by decide +kernel) [some (.ref pl), some (.int yr), some (.int ca), some (.int di), none, none, none] rfl (Nat.le_of_ble_eq_true rfl) (fun p e s m below meth c X hnm hret => ?_)
  have w0 := w
  obtain ⟨hpl, hlp, hls, hP, hS, hn8, hn10, hinj, hpp, hee⟩ := w
  refine aw_iconst X (0) dX3_breachOfCycle_0 (by decide) rfl ?_
  refine aw_ist4 X dX3_breachOfCycle_1 rfl (by decide) rfl ?_
  refine aw_iconst X (0) dX3_breachOfCycle_3 (by decide) rfl ?_
  refine aw_ist5 X dX3_breachOfCycle_4 rfl (by decide) rfl ?_
  refine aw_dn (n := np) (A := fun j k => ∀ (y6 : Option Value), ∀ (x : Int32), ∀ (u : Int32), (x = nI k) → (bcS P yr ca di np 0 0 = bcS P yr ca di j k u) → AW p l e _ s m _ below meth c _ s0 G 7 tg _ h _ _ 6 [some (.ref pl), some (.int yr), some (.int ca), some (.int di), some (.int u), some (.int x), y6] []) ?_ ?_ np 0 rfl none 0 0 nI_0.symm rfl
  · intro y6 x u hx hI
    refine aw_ild5 X dX3_breachOfCycle_6 rfl ?_
    refine aw_ald0 X dX3_breachOfCycle_8 rfl ?_
    refine aw_get X fd_X3_12 dX3_breachOfCycle_9 rfl hpl rfl ?_
    refine aw_callV X dX3_breachOfCycle_12 rfl (k_size X.1 hlp) cmJx4a65c_size_8abf5 ml_X3_31 rfl hlp.1 rfl rfl (Nat.le_of_ble_eq_true rfl) ⟨Nat.le_of_ble_eq_true rfl, Nat.le_of_ble_eq_true rfl⟩ (aw_rs ?_)
    refine aw_icmp_ge (n2 := 76) X dX3_breachOfCycle_15 rfl rfl (fun c15 => ?_) (fun c15 => absurd (ge_t hx (Nat.le_refl _) (by omega)) c15)
    refine aw_ild4 X dX3_breachOfCycle_76 rfl ?_
    exact aw_iret X hret rfl dX3_breachOfCycle_78 (⟨by rw [hI]; rfl, rfl⟩)
  · intro j k hjk ih y6 x u hx hI
    refine aw_ild5 X dX3_breachOfCycle_6 rfl ?_
    refine aw_ald0 X dX3_breachOfCycle_8 rfl ?_
    refine aw_get X fd_X3_12 dX3_breachOfCycle_9 rfl hpl rfl ?_
    refine aw_callV X dX3_breachOfCycle_12 rfl (k_size X.1 hlp) cmJx4a65c_size_8abf5 ml_X3_31 rfl hlp.1 rfl rfl (Nat.le_of_ble_eq_true rfl) ⟨Nat.le_of_ble_eq_true rfl, Nat.le_of_ble_eq_true rfl⟩ (aw_rs ?_)
    refine aw_icmp_ge (n2 := 76) X dX3_breachOfCycle_15 rfl rfl (fun c15 => absurd c15 (ge_f hx (by omega) (by omega))) (fun c15 => ?_)
    refine aw_ald0 X dX3_breachOfCycle_18 rfl ?_
    refine aw_get X fd_X3_12 dX3_breachOfCycle_19 rfl hpl rfl ?_
    refine aw_ild5 X dX3_breachOfCycle_22 rfl ?_
    refine aw_callV X dX3_breachOfCycle_24 rfl (k_lget X.1 hlp hx (by omega) (hP k (by omega)).1) cmJx4a65c_get_915e3 ml_X3_56 rfl hlp.1 rfl rfl (Nat.le_of_ble_eq_true rfl) ⟨Nat.le_of_ble_eq_true rfl, Nat.le_of_ble_eq_true rfl⟩ (aw_rs ?_)
    refine aw_cast X dX3_breachOfCycle_27 rfl rfl cc_X3_40 (hP k (by omega)).2 ?_
    refine aw_ast6 X dX3_breachOfCycle_30 rfl (by decide) rfl ?_
    refine aw_ild2 X dX3_breachOfCycle_32 rfl ?_
    refine aw_ild5 X dX3_breachOfCycle_33 rfl ?_
    refine aw_callSN X dX3_breachOfCycle_35 rfl (k_X6_holds X.1 ca x) cmX6_holds mn_X3_98 rfl rfl (Nat.le_of_ble_eq_true rfl) ⟨Nat.le_of_ble_eq_true rfl, Nat.le_of_ble_eq_true rfl⟩ (aw_rs ?_)
    refine aw_if_eq (n2 := 52) X dX3_breachOfCycle_38 rfl rfl (fun c38 => ?_) (fun c38 => ?_)
    · refine aw_ild5 X dX3_breachOfCycle_52 rfl ?_
      refine aw_ild3 X dX3_breachOfCycle_54 rfl ?_
      refine aw_icmp_ne (n2 := 70) X dX3_breachOfCycle_55 rfl rfl (fun c55 => ?_) (fun c55 => ?_)
      · refine aw_iinc5 X (1) dX3_breachOfCycle_70 (by decide) rfl (by decide) rfl ?_
        refine aw_goto (n := 6) X dX3_breachOfCycle_73 rfl ?_
        exact ih _ (x + 1) u (nx hx) (hI.trans ((if_neg (fun q => (show ¬ holdsP ca x by simpa [bI_0] using c38) (by rw [hx]; exact q.1))).trans (congrArg (bcS P yr ca di j (k + 1)) (if_neg (fun q => c55 (by rw [hx]; exact q.1))))))
      · refine aw_ald6 X dX3_breachOfCycle_58 rfl ?_
        refine aw_get X fd_X3_112 dX3_breachOfCycle_60 rfl (hP k (by omega)).2 rfl ?_
        refine aw_ild1 X dX3_breachOfCycle_63 rfl ?_
        refine aw_icmp_eq (n2 := 70) X dX3_breachOfCycle_64 rfl rfl (fun c64 => ?_) (fun c64 => ?_)
        · refine aw_iinc5 X (1) dX3_breachOfCycle_70 (by decide) rfl (by decide) rfl ?_
          refine aw_goto (n := 6) X dX3_breachOfCycle_73 rfl ?_
          exact ih _ (x + 1) u (nx hx) (hI.trans ((if_neg (fun q => (show ¬ holdsP ca x by simpa [bI_0] using c38) (by rw [hx]; exact q.1))).trans (congrArg (bcS P yr ca di j (k + 1)) (if_neg (fun q => q.2 c64)))))
        · refine aw_iconst X (2) dX3_breachOfCycle_67 (by decide) rfl ?_
          refine aw_ist4 X dX3_breachOfCycle_68 rfl (by decide) rfl ?_
          refine aw_iinc5 X (1) dX3_breachOfCycle_70 (by decide) rfl (by decide) rfl ?_
          refine aw_goto (n := 6) X dX3_breachOfCycle_73 rfl ?_
          exact ih _ (x + 1) 2 (nx hx) (hI.trans ((if_neg (fun q => (show ¬ holdsP ca x by simpa [bI_0] using c38) (by rw [hx]; exact q.1))).trans (congrArg (bcS P yr ca di j (k + 1)) (if_pos ⟨by rw [← hx]; exact c55, c64⟩))))
    · refine aw_ald6 X dX3_breachOfCycle_41 rfl ?_
      refine aw_ild1 X dX3_breachOfCycle_43 rfl ?_
      refine aw_callV X dX3_breachOfCycle_44 rfl (k_X2_livesIn X.1 (hP k (by omega)).2 yr) cmX2_livesIn ml_X3_108 rfl (hP k (by omega)).2 rfl rfl (Nat.le_of_ble_eq_true rfl) ⟨Nat.le_of_ble_eq_true rfl, Nat.le_of_ble_eq_true rfl⟩ (aw_rs ?_)
      refine aw_if_ne (n2 := 52) X dX3_breachOfCycle_47 rfl rfl (fun c47 => ?_) (fun c47 => ?_)
      · refine aw_ild5 X dX3_breachOfCycle_52 rfl ?_
        refine aw_ild3 X dX3_breachOfCycle_54 rfl ?_
        refine aw_icmp_ne (n2 := 70) X dX3_breachOfCycle_55 rfl rfl (fun c55 => ?_) (fun c55 => ?_)
        · refine aw_iinc5 X (1) dX3_breachOfCycle_70 (by decide) rfl (by decide) rfl ?_
          refine aw_goto (n := 6) X dX3_breachOfCycle_73 rfl ?_
          exact ih _ (x + 1) u (nx hx) (hI.trans ((if_neg (fun q => q.2 (by simpa [bI_0] using c47))).trans (congrArg (bcS P yr ca di j (k + 1)) (if_neg (fun q => c55 (by rw [hx]; exact q.1))))))
        · refine aw_ald6 X dX3_breachOfCycle_58 rfl ?_
          refine aw_get X fd_X3_112 dX3_breachOfCycle_60 rfl (hP k (by omega)).2 rfl ?_
          refine aw_ild1 X dX3_breachOfCycle_63 rfl ?_
          refine aw_icmp_eq (n2 := 70) X dX3_breachOfCycle_64 rfl rfl (fun c64 => ?_) (fun c64 => ?_)
          · refine aw_iinc5 X (1) dX3_breachOfCycle_70 (by decide) rfl (by decide) rfl ?_
            refine aw_goto (n := 6) X dX3_breachOfCycle_73 rfl ?_
            exact ih _ (x + 1) u (nx hx) (hI.trans ((if_neg (fun q => q.2 (by simpa [bI_0] using c47))).trans (congrArg (bcS P yr ca di j (k + 1)) (if_neg (fun q => q.2 c64)))))
          · refine aw_iconst X (2) dX3_breachOfCycle_67 (by decide) rfl ?_
            refine aw_ist4 X dX3_breachOfCycle_68 rfl (by decide) rfl ?_
            refine aw_iinc5 X (1) dX3_breachOfCycle_70 (by decide) rfl (by decide) rfl ?_
            refine aw_goto (n := 6) X dX3_breachOfCycle_73 rfl ?_
            exact ih _ (x + 1) 2 (nx hx) (hI.trans ((if_neg (fun q => q.2 (by simpa [bI_0] using c47))).trans (congrArg (bcS P yr ca di j (k + 1)) (if_pos ⟨by rw [← hx]; exact c55, c64⟩))))
      · refine aw_iconst X (1) dX3_breachOfCycle_50 (by decide) rfl ?_
        exact aw_iret X hret rfl dX3_breachOfCycle_51 (⟨by rw [hI]; exact congrArg _ (congrArg _ (if_pos ⟨by rw [← hx]; simpa [bI_0] using c38, by simpa [bI_0] using c47⟩)), rfl⟩)

/-- what is kept of the scenes ahead of k is fresh -/
def XR (S Xc : Nat → Nat → Int32) (kf : Int32) (k : Nat) : Nat → Nat → Int32 := fun i => if i < k then rX S (fun i => Xc i 0) kf i else Xc i
theorem XR_0 (S Xc : Nat → Nat → Int32) (kf : Int32) : XR S Xc kf 0 = Xc := funext fun i => if_neg (Nat.not_lt_zero _)
theorem XR_at (S Xc : Nat → Nat → Int32) (kf : Int32) (k : Nat) : XR S Xc kf k k = Xc k := if_neg (Nat.lt_irrefl _)
theorem upF_s {F : Nat → Nat → Int32} {k : Nat} {r : Nat → Int32} : upF F k r k = r := if_pos rfl
theorem upF_id (F : Nat → Nat → Int32) (k : Nat) : upF F k (F k) = F := funext fun i => by
  unfold upF
  by_cases q : i = k
  · rw [if_pos q, q]
  · rw [if_neg q]
theorem upF_upF (F : Nat → Nat → Int32) (k : Nat) (r q : Nat → Int32) : upF (upF F k r) k q = upF F k q := funext fun i => by
  unfold upF
  by_cases q : i = k
  · rw [if_pos q, if_pos q]
  · rw [if_neg q, if_neg q, if_neg q]
/-- the kept row of a scene, part by part -/
def x4 (a b c d : Int32) : Nat → Int32 := fun i => if i = 0 then a else if i = 1 then b else if i = 2 then c else d
theorem cScn_x (s x : Nat → Int32) : cScn s x = cScn s (x4 (x 0) (x 1) (x 2) (x 3)) := rfl
theorem XR_s {S Xc : Nat → Nat → Int32} {kf : Int32} {k : Nat} : upF (XR S Xc kf k) k (x4 (Xc k 0) (rB S k) (rBr S (fun i => Xc i 0) kf k) (rK S kf (k + 1))) = XR S Xc kf (k + 1) := by
  funext i
  unfold upF XR
  by_cases q : i = k
  · subst q
    rw [if_pos rfl, if_pos (Nat.lt_succ_self _)]
    rfl
  · rw [if_neg q]
    by_cases q2 : i < k
    · rw [if_pos q2, if_pos (by omega)]
    · rw [if_neg q2, if_neg (by omega)]

set_option maxHeartbeats 4000000 in
set_option maxRecDepth 100000 in
theorem k_X3_refresh {l : Launch} {s0 : State} {a0 : Array Value} {G : GG} (X : CX l s0 a0 G) {h : AH} {tg pl Lp edp capp np Ls eds caps ns : Nat} {mdp mds kf br en : Int32} {gp gs : Nat → Option Nat} {pa sa : Nat → Nat} {P S Xc : Nat → Nat → Int32} (htg : tg ≠ 0) (w : PlW G h tg pl Lp edp capp mdp np gp pa P Ls eds caps mds ns gs sa S Xc kf br en)  : Con l s0 G yX3_refresh cX3_refresh 5 none 4 0 0 tg [.ref pl] h (fun r h2 => none = r ∧ PlW G h2 tg pl Lp edp capp mdp np gp pa P Ls eds caps mds ns gs sa S (XR S Xc kf ns) kf (rN S (fun i => Xc i 0) kf ns) (rB S ns) ∧ ∀ a, a ≠ pl → (∀ i, i < ns → a ≠ sa i) → h2 a = h a) := by
  refine Con.of X (by decide +kernel) [some (.ref pl), none, none, none, none] rfl (Nat.le_of_ble_eq_true rfl) (fun p e s m below meth c X hnm hret => ?_)
  have w00 := w
  have hn10 := w.2.2.2.2.2.2.1
  have hpl0 := w.1
  refine aw_iconst X (0) dX3_refresh_0 (by decide) rfl ?_
  refine aw_ist1 X dX3_refresh_1 rfl (by decide) rfl ?_
  refine aw_ald0 X dX3_refresh_2 rfl ?_
  refine aw_get X fd_X3_21 dX3_refresh_3 rfl hpl0 rfl ?_
  refine aw_ist2 X dX3_refresh_6 rfl (by decide) rfl ?_
  refine aw_ald0 X dX3_refresh_7 rfl ?_
  refine aw_iconst X (0) dX3_refresh_8 (by decide) rfl ?_
  refine aw_put X fd_X3_25 fw_X3_3 dX3_refresh_9 rfl htg hpl0 rfl rfl (Nat.le_of_ble_eq_true rfl) ?_
  refine aw_iconst X (0) dX3_refresh_12 (by decide) rfl ?_
  refine aw_ist3 X dX3_refresh_13 rfl (by decide) rfl ?_
  refine aw_dn (n := ns) (A := fun j k => ∀ (y4 : Option Value), ∀ (x : Int32), ∀ (h9 : AH), (x = nI k) → (PlW G h9 tg pl Lp edp capp mdp np gp pa P Ls eds caps mds ns gs sa S (XR S Xc kf k) kf (rN S (fun i => Xc i 0) kf k) en) → (∀ a, a ≠ pl → (∀ i, i < ns → a ≠ sa i) → h9 a = h a) → AW p l e _ s m _ below meth c _ s0 G 5 tg _ h9 _ _ 14 [some (.ref pl), some (.int (rB S k)), some (.int (rK S kf k)), some (.int x), y4] []) ?_ ?_ ns 0 rfl none 0 _ nI_0.symm (by rw [XR_0]; exact w00.putP kf 0 en) (fun a h1 _ => hu_n h1)
  · intro y4 x h9 hx hw9 hk9
    obtain ⟨hpl, hlp, hls, hP, hS, -, -, -, -, -⟩ := id hw9
    refine aw_ild3 X dX3_refresh_14 rfl ?_
    refine aw_ald0 X dX3_refresh_15 rfl ?_
    refine aw_get X fd_X3_18 dX3_refresh_16 rfl hpl rfl ?_
    refine aw_callV X dX3_refresh_19 rfl (k_size X.1 hls) cmJx4a65c_size_8abf5 ml_X3_31 rfl hls.1 rfl rfl (Nat.le_of_ble_eq_true rfl) ⟨Nat.le_of_ble_eq_true rfl, Nat.le_of_ble_eq_true rfl⟩ (aw_rs ?_)
    refine aw_icmp_ge (n2 := 121) X dX3_refresh_22 rfl rfl (fun c22 => ?_) (fun c22 => absurd (ge_t hx (Nat.le_refl _) (by omega)) c22)
    refine aw_ald0 X dX3_refresh_121 rfl ?_
    refine aw_ild1 X dX3_refresh_122 rfl ?_
    refine aw_put X fd_X3_28 fw_X3_4 dX3_refresh_123 rfl htg hpl rfl rfl (Nat.le_of_ble_eq_true rfl) ?_
    exact aw_vret X hret dX3_refresh_126 (⟨rfl, hw9.putP _ _ _, fun a h1 h2 => (hu_n h1).trans (hk9 a h1 h2)⟩)
  · intro j k hjk ih y4 x h9 hx hw9 hk9
    have w1 := hw9
    obtain ⟨hpl, hlp, hls, hP, hS, -, -, -, -, -⟩ := id hw9
    have hSk := hS k (by omega)
    rw [XR_at] at hSk
    refine aw_ild3 X dX3_refresh_14 rfl ?_
    refine aw_ald0 X dX3_refresh_15 rfl ?_
    refine aw_get X fd_X3_18 dX3_refresh_16 rfl hpl rfl ?_
    refine aw_callV X dX3_refresh_19 rfl (k_size X.1 hls) cmJx4a65c_size_8abf5 ml_X3_31 rfl hls.1 rfl rfl (Nat.le_of_ble_eq_true rfl) ⟨Nat.le_of_ble_eq_true rfl, Nat.le_of_ble_eq_true rfl⟩ (aw_rs ?_)
    refine aw_icmp_ge (n2 := 121) X dX3_refresh_22 rfl rfl (fun c22 => absurd c22 (ge_f hx (by omega) (by omega))) (fun c22 => ?_)
    refine aw_ald0 X dX3_refresh_25 rfl ?_
    refine aw_get X fd_X3_18 dX3_refresh_26 rfl hpl rfl ?_
    refine aw_ild3 X dX3_refresh_29 rfl ?_
    refine aw_callV X dX3_refresh_30 rfl (k_lget X.1 hls hx (by omega) hSk.1) cmJx4a65c_get_915e3 ml_X3_56 rfl hls.1 rfl rfl (Nat.le_of_ble_eq_true rfl) ⟨Nat.le_of_ble_eq_true rfl, Nat.le_of_ble_eq_true rfl⟩ (aw_rs ?_)
    refine aw_cast X dX3_refresh_33 rfl rfl cc_X3_51 hSk.2 ?_
    refine aw_ast4 X dX3_refresh_36 rfl (by decide) rfl ?_
    refine aw_ald4 X dX3_refresh_38 rfl ?_
    refine aw_ild1 X dX3_refresh_40 rfl ?_
    refine aw_put X fd_X3_79 fw_X4_7 dX3_refresh_41 rfl htg hSk.2 rfl rfl (Nat.le_of_ble_eq_true rfl) ?_
    have wA := hw9.putS (k := k) (by omega) (S k) (x4 (Xc k 0) (rB S k) (Xc k 2) (Xc k 3))
    rw [upF_id] at wA
    have hplA := wA.1
    refine aw_ald4 X dX3_refresh_44 rfl ?_
    refine aw_ald4 X dX3_refresh_46 rfl ?_
    refine aw_ald0 X dX3_refresh_48 rfl ?_
    refine aw_ald4 X dX3_refresh_49 rfl ?_
    refine aw_get X fd_X3_82 dX3_refresh_51 rfl hu_s rfl ?_
    refine aw_ild3 X dX3_refresh_54 rfl ?_
    refine aw_callV X dX3_refresh_55 rfl (k_X3_deadIn X.1 wA (S k 0) hx (by omega)) cmX3_deadIn ml_X3_85 rfl hplA rfl rfl (Nat.le_of_ble_eq_true rfl) ⟨Nat.le_of_ble_eq_true rfl, Nat.le_of_ble_eq_true rfl⟩ (aw_rs ?_)
    refine aw_ild2 X dX3_refresh_58 rfl ?_
    refine aw_callV X dX3_refresh_59 rfl (k_X4_breachWith X.1 (s9 := S k) (x9 := x4 (Xc k 0) (rB S k) (Xc k 2) (Xc k 3)) hu_s _ (rK S kf k)) cmX4_breachWith ml_X3_89 rfl hu_s rfl rfl (Nat.le_of_ble_eq_true rfl) ⟨Nat.le_of_ble_eq_true rfl, Nat.le_of_ble_eq_true rfl⟩ (aw_rs ?_)
    refine aw_put X fd_X3_92 fw_X4_8 dX3_refresh_62 rfl htg hu_s rfl rfl (Nat.le_of_ble_eq_true rfl) ?_
    have wB := hw9.putS (k := k) (by omega) (S k) (x4 (Xc k 0) (rB S k) (rBr S (fun i => Xc i 0) kf k) (Xc k 3))
    rw [upF_id] at wB
    rw [hu_hu]
    change AW p l e _ s m _ below meth c _ s0 G 5 tg _ (hu h9 (sa k) (tg, cScn (S k) (x4 (Xc k 0) (rB S k) (rBr S (fun i => Xc i 0) kf k) (Xc k 3)))) _ _ _ _ _
    have hplB := wB.1
    refine aw_ald4 X dX3_refresh_65 rfl ?_
    refine aw_get X fd_X3_92 dX3_refresh_67 rfl hu_s rfl ?_
    refine aw_if_eq (n2 := 83) X dX3_refresh_70 rfl rfl (fun c70 => ?_) (fun c70 => ?_)
    · have hN : rN S (fun i => Xc i 0) kf (k + 1) = rN S (fun i => Xc i 0) kf k := if_neg (fun q => q c70)
      have wC := wB.br hN.symm
      have hC := (wC.2.2.2.2.1 k (by omega)).2
      rw [upF_s] at hC
      have hkC : ∀ a, a ≠ pl → (∀ i, i < ns → a ≠ sa i) → hu h9 (sa k) (tg, cScn (S k) (x4 (Xc k 0) (rB S k) (rBr S (fun i => Xc i 0) kf k) (Xc k 3))) a = h a := fun a h1 h2 => (hu_n (h2 k (by omega))).trans (hk9 a h1 h2)
      refine aw_ild2 X dX3_refresh_83 rfl ?_
      refine aw_ald4 X dX3_refresh_84 rfl ?_
      refine aw_get X fd_X3_95 dX3_refresh_86 rfl hC rfl ?_
      refine aw_callSN X dX3_refresh_89 rfl (k_X6_holds X.1 (rK S kf k) (S k 5)) cmX6_holds mn_X3_98 rfl rfl (Nat.le_of_ble_eq_true rfl) ⟨Nat.le_of_ble_eq_true rfl, Nat.le_of_ble_eq_true rfl⟩ (aw_rs ?_)
      refine aw_if_eq (n2 := 103) X dX3_refresh_92 rfl rfl (fun c92 => ?_) (fun c92 => ?_)
      · have hK : rK S kf (k + 1) = rK S kf k := if_neg (by simpa [bI_0] using c92)
        refine aw_ald4 X dX3_refresh_103 rfl ?_
        refine aw_ild2 X dX3_refresh_105 rfl ?_
        refine aw_put X fd_X3_72 fw_X4_9 dX3_refresh_106 rfl htg hC rfl rfl (Nat.le_of_ble_eq_true rfl) ?_
        refine aw_ald4 X dX3_refresh_109 rfl ?_
        refine aw_callV X dX3_refresh_111 rfl (k_X4_end X.1 (s9 := S k) (x9 := x4 (Xc k 0) (rB S k) (rBr S (fun i => Xc i 0) kf k) (rK S kf k)) hu_s) cmX4_end ml_X3_70 rfl hu_s rfl rfl (Nat.le_of_ble_eq_true rfl) ⟨Nat.le_of_ble_eq_true rfl, Nat.le_of_ble_eq_true rfl⟩ (aw_rs ?_)
        refine aw_ist1 X dX3_refresh_114 rfl (by decide) rfl ?_
        refine aw_iinc3 X (1) dX3_refresh_115 (by decide) rfl (by decide) rfl ?_
        refine aw_goto (n := 14) X dX3_refresh_118 rfl ?_
        have hD := wC.putS (k := k) (by omega) (S k) (x4 (Xc k 0) (rB S k) (rBr S (fun i => Xc i 0) kf k) (rK S kf (k + 1)))
        rw [upF_id, upF_upF, XR_s, hK] at hD
        have hQ := fun y => ih y (x + 1) _ (nx hx) hD (fun a h1 h2 => (hu_n (h2 k (by omega))).trans (hkC a h1 h2))
        rw [hK] at hQ
        exact hQ _
      · refine aw_ild2 X dX3_refresh_95 rfl ?_
        refine aw_ald4 X dX3_refresh_96 rfl ?_
        refine aw_get X fd_X3_102 dX3_refresh_98 rfl hC rfl ?_
        refine aw_ior X dX3_refresh_101 rfl ?_
        refine aw_ist2 X dX3_refresh_102 rfl (by decide) rfl ?_
        have hK : rK S kf (k + 1) = rK S kf k ||| S k 2 := if_pos (by simpa [bI_0] using c92)
        refine aw_ald4 X dX3_refresh_103 rfl ?_
        refine aw_ild2 X dX3_refresh_105 rfl ?_
        refine aw_put X fd_X3_72 fw_X4_9 dX3_refresh_106 rfl htg hC rfl rfl (Nat.le_of_ble_eq_true rfl) ?_
        refine aw_ald4 X dX3_refresh_109 rfl ?_
        refine aw_callV X dX3_refresh_111 rfl (k_X4_end X.1 (s9 := S k) (x9 := x4 (Xc k 0) (rB S k) (rBr S (fun i => Xc i 0) kf k) (rK S kf k ||| S k 2)) hu_s) cmX4_end ml_X3_70 rfl hu_s rfl rfl (Nat.le_of_ble_eq_true rfl) ⟨Nat.le_of_ble_eq_true rfl, Nat.le_of_ble_eq_true rfl⟩ (aw_rs ?_)
        refine aw_ist1 X dX3_refresh_114 rfl (by decide) rfl ?_
        refine aw_iinc3 X (1) dX3_refresh_115 (by decide) rfl (by decide) rfl ?_
        refine aw_goto (n := 14) X dX3_refresh_118 rfl ?_
        have hD := wC.putS (k := k) (by omega) (S k) (x4 (Xc k 0) (rB S k) (rBr S (fun i => Xc i 0) kf k) (rK S kf (k + 1)))
        rw [upF_id, upF_upF, XR_s, hK] at hD
        have hQ := fun y => ih y (x + 1) _ (nx hx) hD (fun a h1 h2 => (hu_n (h2 k (by omega))).trans (hkC a h1 h2))
        rw [hK] at hQ
        exact hQ _
    · refine aw_ald0 X dX3_refresh_73 rfl ?_
      refine aw_dup X dX3_refresh_74 rfl rfl ?_
      refine aw_get X fd_X3_25 dX3_refresh_75 rfl hplB rfl ?_
      refine aw_iconst X (1) dX3_refresh_78 (by decide) rfl ?_
      refine aw_iadd X dX3_refresh_79 rfl ?_
      refine aw_put X fd_X3_25 fw_X3_3 dX3_refresh_80 rfl htg hplB rfl rfl (Nat.le_of_ble_eq_true rfl) ?_
      have hN : rN S (fun i => Xc i 0) kf (k + 1) = rN S (fun i => Xc i 0) kf k + 1 := if_pos (fun q => c70 q)
      have wC := (wB.putP kf (rN S (fun i => Xc i 0) kf k + 1) en).br hN.symm
      have hC := (wC.2.2.2.2.1 k (by omega)).2
      rw [upF_s] at hC
      have hkC : ∀ a, a ≠ pl → (∀ i, i < ns → a ≠ sa i) → hu (hu h9 (sa k) (tg, cScn (S k) (x4 (Xc k 0) (rB S k) (rBr S (fun i => Xc i 0) kf k) (Xc k 3)))) pl (tg, .inr (5, [.ref Lp, .ref Ls, .int kf, .int (rN S (fun i => Xc i 0) kf k + 1), .int en])) a = h a := fun a h1 h2 => (hu_n h1).trans ((hu_n (h2 k (by omega))).trans (hk9 a h1 h2))
      refine aw_ild2 X dX3_refresh_83 rfl ?_
      refine aw_ald4 X dX3_refresh_84 rfl ?_
      refine aw_get X fd_X3_95 dX3_refresh_86 rfl hC rfl ?_
      refine aw_callSN X dX3_refresh_89 rfl (k_X6_holds X.1 (rK S kf k) (S k 5)) cmX6_holds mn_X3_98 rfl rfl (Nat.le_of_ble_eq_true rfl) ⟨Nat.le_of_ble_eq_true rfl, Nat.le_of_ble_eq_true rfl⟩ (aw_rs ?_)
      refine aw_if_eq (n2 := 103) X dX3_refresh_92 rfl rfl (fun c92 => ?_) (fun c92 => ?_)
      · have hK : rK S kf (k + 1) = rK S kf k := if_neg (by simpa [bI_0] using c92)
        refine aw_ald4 X dX3_refresh_103 rfl ?_
        refine aw_ild2 X dX3_refresh_105 rfl ?_
        refine aw_put X fd_X3_72 fw_X4_9 dX3_refresh_106 rfl htg hC rfl rfl (Nat.le_of_ble_eq_true rfl) ?_
        refine aw_ald4 X dX3_refresh_109 rfl ?_
        refine aw_callV X dX3_refresh_111 rfl (k_X4_end X.1 (s9 := S k) (x9 := x4 (Xc k 0) (rB S k) (rBr S (fun i => Xc i 0) kf k) (rK S kf k)) hu_s) cmX4_end ml_X3_70 rfl hu_s rfl rfl (Nat.le_of_ble_eq_true rfl) ⟨Nat.le_of_ble_eq_true rfl, Nat.le_of_ble_eq_true rfl⟩ (aw_rs ?_)
        refine aw_ist1 X dX3_refresh_114 rfl (by decide) rfl ?_
        refine aw_iinc3 X (1) dX3_refresh_115 (by decide) rfl (by decide) rfl ?_
        refine aw_goto (n := 14) X dX3_refresh_118 rfl ?_
        have hD := wC.putS (k := k) (by omega) (S k) (x4 (Xc k 0) (rB S k) (rBr S (fun i => Xc i 0) kf k) (rK S kf (k + 1)))
        rw [upF_id, upF_upF, XR_s, hK] at hD
        have hQ := fun y => ih y (x + 1) _ (nx hx) hD (fun a h1 h2 => (hu_n (h2 k (by omega))).trans (hkC a h1 h2))
        rw [hK] at hQ
        exact hQ _
      · refine aw_ild2 X dX3_refresh_95 rfl ?_
        refine aw_ald4 X dX3_refresh_96 rfl ?_
        refine aw_get X fd_X3_102 dX3_refresh_98 rfl hC rfl ?_
        refine aw_ior X dX3_refresh_101 rfl ?_
        refine aw_ist2 X dX3_refresh_102 rfl (by decide) rfl ?_
        have hK : rK S kf (k + 1) = rK S kf k ||| S k 2 := if_pos (by simpa [bI_0] using c92)
        refine aw_ald4 X dX3_refresh_103 rfl ?_
        refine aw_ild2 X dX3_refresh_105 rfl ?_
        refine aw_put X fd_X3_72 fw_X4_9 dX3_refresh_106 rfl htg hC rfl rfl (Nat.le_of_ble_eq_true rfl) ?_
        refine aw_ald4 X dX3_refresh_109 rfl ?_
        refine aw_callV X dX3_refresh_111 rfl (k_X4_end X.1 (s9 := S k) (x9 := x4 (Xc k 0) (rB S k) (rBr S (fun i => Xc i 0) kf k) (rK S kf k ||| S k 2)) hu_s) cmX4_end ml_X3_70 rfl hu_s rfl rfl (Nat.le_of_ble_eq_true rfl) ⟨Nat.le_of_ble_eq_true rfl, Nat.le_of_ble_eq_true rfl⟩ (aw_rs ?_)
        refine aw_ist1 X dX3_refresh_114 rfl (by decide) rfl ?_
        refine aw_iinc3 X (1) dX3_refresh_115 (by decide) rfl (by decide) rfl ?_
        refine aw_goto (n := 14) X dX3_refresh_118 rfl ?_
        have hD := wC.putS (k := k) (by omega) (S k) (x4 (Xc k 0) (rB S k) (rBr S (fun i => Xc i 0) kf k) (rK S kf (k + 1)))
        rw [upF_id, upF_upF, XR_s, hK] at hD
        have hQ := fun y => ih y (x + 1) _ (nx hx) hD (fun a h1 h2 => (hu_n (h2 k (by omega))).trans (hkC a h1 h2))
        rw [hK] at hQ
        exact hQ _
