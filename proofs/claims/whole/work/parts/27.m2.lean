/-! THE MODEL'S PLOT: rows of six of any list -/
def deadB (F : Nat → Nat → Int32) (k : Nat) (x : Int32) : Bool := !decide (∀ j, j < k → ¬ (F j 4 = x ∧ F j 0 ≤ F k 0))
abbrev deadP (F : Nat → Nat → Int32) (k : Nat) (x : Int32) : Prop := deadB F k x = true
theorem deadP_y {F : Nat → Nat → Int32} {k j : Nat} {x : Int32} (hj : j < k) (h : F j 4 = x ∧ F j 0 ≤ F k 0) : deadP F k x := by
  unfold deadP deadB
  rw [decide_eq_false (fun q => q j hj h)]
  rfl
theorem deadP_n {F : Nat → Nat → Int32} {k : Nat} {x : Int32} (h : ∀ j, j < k → ¬ (F j 4 = x ∧ F j 0 ≤ F k 0)) : ¬ deadP F k x := by
  unfold deadP deadB
  rw [decide_eq_true h]
  decide
abbrev castb (ca : Int32) (i : Nat) : Prop := (ca >>> (nI i &&& 31)) &&& 1 = 1
abbrev badP (P F : Nat → Nat → Int32) (k i : Nat) : Prop := castb (F k 2) i ∧ (F k 0 < P i 3 ∨ P i 4 < F k 0 ∨ deadP F k (nI i))
def okB (P : Nat → Nat → Int32) (np : Nat) (F : Nat → Nat → Int32) (k : Nat) : Bool := decide (∀ i, i < np → ¬ badP P F k i)
abbrev okP (P : Nat → Nat → Int32) (np : Nat) (F : Nat → Nat → Int32) (k : Nat) : Prop := okB P np F k = true
/-- the model's breach of the scene k that begins at the minute at, with kn who know -/
def mB (P : Nat → Nat → Int32) (np : Nat) (F : Nat → Nat → Int32) (k : Nat) (at9 kn : Int32) : Int32 :=
  if ¬ okP P np F k then 1 else if ¬ F k 4 = -1 ∧ ¬ P (iN (F k 4)) 4 = F k 0 then 2 else if ¬ F k 5 = -1 ∧ (kn >>> (F k 5 &&& 31)) &&& 1 = 0 then 3 else if ¬ F k 1 ≤ (if at9 / 180 < 2 then at9 / 180 else 2) + 1 then 4 else if ¬ at9 + F k 3 ≤ 540 then 5 else 0

set_option maxHeartbeats 4000000 in
set_option maxRecDepth 100000 in
theorem k_X7_isDead {l : Launch} {s0 : State} {a0 : Array Value} {G : GG} (X : CX l s0 a0 G) {h : AH} {tL tF tg L n ed cap : Nat} {g : Nat → Option Nat} {fa : Nat → Nat} {F : Nat → Nat → Int32} {md : Int32} (hw : LR h tL L n g ed cap md) (hR : RwW h tF n g fa F) {k9 : Nat} {x9 : Int32} (hx9 : x9 = nI k9) (hk9 : k9 < n) (p9 : Int32)  : Con l s0 G yX7_isDead cX7_isDead 4 (some .boolean) 3 0 0 tg [.ref L, .int x9, .int p9] h (RS (.int (bI (deadP F k9 p9))) h) := by
  refine Con.of X (by decide +kernel) [some (.ref L), some (.int x9), some (.int p9), none] rfl (Nat.le_of_ble_eq_true rfl) (fun p e s m below meth c X hnm hret => ?_)
  have hcap := hw.2.1
  have hcap2 := hw.2.2.1
  refine aw_iconst X (0) dX7_isDead_0 (by decide) rfl ?_
  refine aw_ist3 X dX7_isDead_1 rfl (by decide) rfl ?_
  refine aw_dn (n := k9) (A := fun j k => ∀ (x : Int32), (x = nI k) → (∀ j, j < k → ¬ (F j 4 = p9 ∧ F j 0 ≤ F k9 0)) → AW p l e _ s m _ below meth c _ s0 G 4 tg _ h _ _ 2 [some (.ref L), some (.int x9), some (.int p9), some (.int x)] []) ?_ ?_ k9 0 rfl 0 nI_0.symm (fun j hj => absurd hj (Nat.not_lt_zero _))
  · intro x hx hI
    refine aw_ild3 X dX7_isDead_2 rfl ?_
    refine aw_ild1 X dX7_isDead_3 rfl ?_
    refine aw_icmp_ge (n2 := 52) X dX7_isDead_4 rfl rfl (fun c4 => ?_) (fun c4 => absurd (by rw [hx9]; exact ge_t hx (Nat.le_refl _) (by omega)) c4)
    refine aw_iconst X (0) dX7_isDead_52 (by decide) rfl ?_
    exact aw_iret X hret rfl dX7_isDead_53 (⟨by rw [bI_f (deadP_n hI)], rfl⟩)
  · intro j k hjk ih x hx hI
    refine aw_ild3 X dX7_isDead_2 rfl ?_
    refine aw_ild1 X dX7_isDead_3 rfl ?_
    refine aw_icmp_ge (n2 := 52) X dX7_isDead_4 rfl rfl (fun c4 => absurd c4 (by rw [hx9]; exact ge_f hx (by omega) (by omega))) (fun c4 => ?_)
    refine aw_ald0 X dX7_isDead_7 rfl ?_
    refine aw_ild3 X dX7_isDead_8 rfl ?_
    refine aw_callV X dX7_isDead_9 rfl (k_rget X.1 hw hx (by omega) (hR k (by omega)).1) cmJx4a65c_get_915e3 ml_X7_48 rfl hw.1 rfl rfl (Nat.le_of_ble_eq_true rfl) ⟨Nat.le_of_ble_eq_true rfl, Nat.le_of_ble_eq_true rfl⟩ (aw_rs ?_)
    refine aw_castA X dX7_isDead_12 rfl (kd := 0) (by decide) cc_X7_52 (hR k (by omega)).2 ?_
    refine aw_iconst X (4) dX7_isDead_15 (by decide) rfl ?_
    refine aw_iald X (4) dX7_isDead_16 rfl (hR k (by omega)).2 rfl (by decide) (by decide) ?_
    refine aw_ild2 X dX7_isDead_17 rfl ?_
    refine aw_icmp_ne (n2 := 46) X dX7_isDead_18 rfl rfl (fun c18 => ?_) (fun c18 => ?_)
    · refine aw_iinc3 X (1) dX7_isDead_46 (by decide) rfl (by decide) rfl ?_
      refine aw_goto (n := 2) X dX7_isDead_49 rfl ?_
      exact ih (x + 1) (nx hx) (fun i hi => (Nat.lt_or_eq_of_le (Nat.le_of_lt_succ hi)).elim (hI i) (fun e q => by rw [e] at q; exact c18 q.1))
    · refine aw_ald0 X dX7_isDead_21 rfl ?_
      refine aw_ild3 X dX7_isDead_22 rfl ?_
      refine aw_callV X dX7_isDead_23 rfl (k_rget X.1 hw hx (by omega) (hR k (by omega)).1) cmJx4a65c_get_915e3 ml_X7_48 rfl hw.1 rfl rfl (Nat.le_of_ble_eq_true rfl) ⟨Nat.le_of_ble_eq_true rfl, Nat.le_of_ble_eq_true rfl⟩ (aw_rs ?_)
      refine aw_castA X dX7_isDead_26 rfl (kd := 0) (by decide) cc_X7_52 (hR k (by omega)).2 ?_
      refine aw_iconst X (0) dX7_isDead_29 (by decide) rfl ?_
      refine aw_iald X (0) dX7_isDead_30 rfl (hR k (by omega)).2 rfl (by decide) (by decide) ?_
      refine aw_ald0 X dX7_isDead_31 rfl ?_
      refine aw_ild1 X dX7_isDead_32 rfl ?_
      refine aw_callV X dX7_isDead_33 rfl (k_rget X.1 hw hx9 hk9 (hR k9 hk9).1) cmJx4a65c_get_915e3 ml_X7_48 rfl hw.1 rfl rfl (Nat.le_of_ble_eq_true rfl) ⟨Nat.le_of_ble_eq_true rfl, Nat.le_of_ble_eq_true rfl⟩ (aw_rs ?_)
      refine aw_castA X dX7_isDead_36 rfl (kd := 0) (by decide) cc_X7_52 (hR k9 hk9).2 ?_
      refine aw_iconst X (0) dX7_isDead_39 (by decide) rfl ?_
      refine aw_iald X (0) dX7_isDead_40 rfl (hR k9 hk9).2 rfl (by decide) (by decide) ?_
      refine aw_icmp_gt (n2 := 46) X dX7_isDead_41 rfl rfl (fun c41 => ?_) (fun c41 => ?_)
      · refine aw_iinc3 X (1) dX7_isDead_46 (by decide) rfl (by decide) rfl ?_
        refine aw_goto (n := 2) X dX7_isDead_49 rfl ?_
        exact ih (x + 1) (nx hx) (fun i hi => (Nat.lt_or_eq_of_le (Nat.le_of_lt_succ hi)).elim (hI i) (fun e q => by rw [e] at q; exact Int32.not_le.mpr c41 q.2))
      · refine aw_iconst X (1) dX7_isDead_44 (by decide) rfl ?_
        exact aw_iret X hret rfl dX7_isDead_45 (⟨by rw [bI_t (deadP_y (show k < k9 by omega) ⟨c18, Int32.not_lt.mp c41⟩)], rfl⟩)

set_option maxHeartbeats 4000000 in
set_option maxRecDepth 100000 in
theorem k_X7_breach {l : Launch} {s0 : State} {a0 : Array Value} {G : GG} (X : CX l s0 a0 G) {h : AH} {tg mo : Nat} {A : KA} {t : Int32} {sm : Int64} {σ : NS} (w : MoW G h tg mo A t sm σ) {tL tF L n ed cap : Nat} {g : Nat → Option Nat} {fa : Nat → Nat} {F : Nat → Nat → Int32} {md : Int32} (hw : LR h tL L n g ed cap md) (hR : RwW h tF n g fa F) {k9 : Nat} {x9 : Int32} (hx9 : x9 = nI k9) (hk9 : k9 < n) (at9 kn : Int32) (hdi : F k9 4 = -1 ∨ ∃ i, i < σ.np ∧ F k9 4 = nI i)  : Con l s0 G yX7_breach cX7_breach 8 (some .int) 4 0 0 tg [.ref mo, .ref L, .int x9, .int at9, .int kn] h (RS (.int (mB σ.P σ.np F k9 at9 kn)) h) := by
  refine Con.of X (by decide +kernel) [some (.ref mo), some (.ref L), some (.int x9), some (.int at9), some (.int kn), none, none, none] rfl (Nat.le_of_ble_eq_true rfl) (fun p e s m below meth c X hnm hret => ?_)
  have w0 := w
  obtain ⟨hmo, ⟨hlp, hls, hlf⟩, ⟨hP, hS, hF⟩, ⟨hn8, hn10, hn12⟩, hdd⟩ := id w
  have hcap := hw.2.1
  have hcap2 := hw.2.2.1
  refine aw_ald1 X dX7_breach_0 rfl ?_
  refine aw_ild2 X dX7_breach_1 rfl ?_
  refine aw_callV X dX7_breach_2 rfl (k_rget X.1 hw hx9 hk9 (hR k9 hk9).1) cmJx4a65c_get_915e3 ml_X7_48 rfl hw.1 rfl rfl (Nat.le_of_ble_eq_true rfl) ⟨Nat.le_of_ble_eq_true rfl, Nat.le_of_ble_eq_true rfl⟩ (aw_rs ?_)
  refine aw_castA X dX7_breach_5 rfl (kd := 0) (by decide) cc_X7_52 (hR k9 hk9).2 ?_
  refine aw_ast5 X dX7_breach_8 rfl (by decide) rfl ?_
  refine aw_iconst X (0) dX7_breach_10 (by decide) rfl ?_
  refine aw_ist6 X dX7_breach_11 rfl (by decide) rfl ?_
  refine aw_dn (n := σ.np) (A := fun j k => ∀ (y7 : Option Value), ∀ (x : Int32), (x = nI k) → (∀ i, i < k → ¬ badP σ.P F k9 i) → AW p l e _ s m _ below meth c _ s0 G 8 tg _ h _ _ 13 [some (.ref mo), some (.ref L), some (.int x9), some (.int at9), some (.int kn), some (.ref (fa k9)), some (.int x), y7] []) ?_ ?_ σ.np 0 rfl none 0 nI_0.symm (fun j hj => absurd hj (Nat.not_lt_zero _))
  · intro y7 x hx hI
    have hok : okP σ.P σ.np F k9 := decide_eq_true hI
    refine aw_ild6 X dX7_breach_13 rfl ?_
    refine aw_ald0 X dX7_breach_15 rfl ?_
    refine aw_get X fd_X7_10 dX7_breach_16 rfl hmo rfl ?_
    refine aw_callV X dX7_breach_19 rfl (k_size X.1 hlp) cmJx4a65c_size_8abf5 ml_X7_38 rfl hlp.1 rfl rfl (Nat.le_of_ble_eq_true rfl) ⟨Nat.le_of_ble_eq_true rfl, Nat.le_of_ble_eq_true rfl⟩ (aw_rs ?_)
    refine aw_icmp_ge (n2 := 92) X dX7_breach_22 rfl rfl (fun c22 => ?_) (fun c22 => absurd (ge_t hx (Nat.le_refl _) (by omega)) c22)
    refine aw_ald5 X dX7_breach_92 rfl ?_
    refine aw_iconst X (4) dX7_breach_94 (by decide) rfl ?_
    refine aw_iald X (4) dX7_breach_95 rfl (hR k9 hk9).2 rfl (by decide) (by decide) ?_
    refine aw_iconst X (-1) dX7_breach_96 (by decide) rfl ?_
    refine aw_icmp_eq (n2 := 125) X dX7_breach_97 rfl rfl (fun c97 => ?_) (fun c97 => ?_)
    · refine aw_ald5 X dX7_breach_125 rfl ?_
      refine aw_iconst X (5) dX7_breach_127 (by decide) rfl ?_
      refine aw_iald X (5) dX7_breach_128 rfl (hR k9 hk9).2 rfl (by decide) (by decide) ?_
      refine aw_iconst X (-1) dX7_breach_129 (by decide) rfl ?_
      refine aw_icmp_eq (n2 := 147) X dX7_breach_130 rfl rfl (fun c130 => ?_) (fun c130 => ?_)
      · refine aw_ald5 X dX7_breach_147 rfl ?_
        refine aw_iconst X (1) dX7_breach_149 (by decide) rfl ?_
        refine aw_iald X (1) dX7_breach_150 rfl (hR k9 hk9).2 rfl (by decide) (by decide) ?_
        refine aw_iconst X (2) dX7_breach_151 (by decide) rfl ?_
        refine aw_ild3 X dX7_breach_152 rfl ?_
        refine aw_sipush X (180) dX7_breach_153 (by decide) rfl ?_
        refine aw_idiv X dX7_breach_156 (by decide) rfl ?_
        refine aw_mmin X dX7_breach_157 rfl ⟨ml_X7_62, mm_min⟩ (Nat.le_of_ble_eq_true rfl) (Nat.le_of_ble_eq_true rfl) ?_
        refine aw_iconst X (1) dX7_breach_160 (by decide) rfl ?_
        refine aw_iadd X dX7_breach_161 rfl ?_
        refine aw_icmp_le (n2 := 167) X dX7_breach_162 rfl rfl (fun c162 => ?_) (fun c162 => ?_)
        · refine aw_ild3 X dX7_breach_167 rfl ?_
          refine aw_ald5 X dX7_breach_168 rfl ?_
          refine aw_iconst X (3) dX7_breach_170 (by decide) rfl ?_
          refine aw_iald X (3) dX7_breach_171 rfl (hR k9 hk9).2 rfl (by decide) (by decide) ?_
          refine aw_iadd X dX7_breach_172 rfl ?_
          refine aw_sipush X (540) dX7_breach_173 (by decide) rfl ?_
          refine aw_icmp_le (n2 := 183) X dX7_breach_176 rfl rfl (fun c176 => ?_) (fun c176 => ?_)
          · refine aw_iconst X (0) dX7_breach_183 (by decide) rfl ?_
            exact aw_iret X hret rfl dX7_breach_184 (⟨by unfold mB; rw [if_neg (fun q => q hok), if_neg (fun q => q.1 c97), if_neg (fun q => q.1 c130), if_neg (fun q => q c162), if_neg (fun q => q c176)], rfl⟩)
          · refine aw_iconst X (5) dX7_breach_179 (by decide) rfl ?_
            refine aw_goto (n := 184) X dX7_breach_180 rfl ?_
            exact aw_iret X hret rfl dX7_breach_184 (⟨by unfold mB; rw [if_neg (fun q => q hok), if_neg (fun q => q.1 c97), if_neg (fun q => q.1 c130), if_neg (fun q => q c162), if_pos c176], rfl⟩)
        · refine aw_iconst X (4) dX7_breach_165 (by decide) rfl ?_
          exact aw_iret X hret rfl dX7_breach_166 (⟨by unfold mB; rw [if_neg (fun q => q hok), if_neg (fun q => q.1 c97), if_neg (fun q => q.1 c130), if_pos c162], rfl⟩)
      · refine aw_ild4 X dX7_breach_133 rfl ?_
        refine aw_ald5 X dX7_breach_135 rfl ?_
        refine aw_iconst X (5) dX7_breach_137 (by decide) rfl ?_
        refine aw_iald X (5) dX7_breach_138 rfl (hR k9 hk9).2 rfl (by decide) (by decide) ?_
        refine aw_ishr X dX7_breach_139 rfl ?_
        refine aw_iconst X (1) dX7_breach_140 (by decide) rfl ?_
        refine aw_iand X dX7_breach_141 rfl ?_
        refine aw_if_ne (n2 := 147) X dX7_breach_142 rfl rfl (fun c142 => ?_) (fun c142 => ?_)
        · refine aw_ald5 X dX7_breach_147 rfl ?_
          refine aw_iconst X (1) dX7_breach_149 (by decide) rfl ?_
          refine aw_iald X (1) dX7_breach_150 rfl (hR k9 hk9).2 rfl (by decide) (by decide) ?_
          refine aw_iconst X (2) dX7_breach_151 (by decide) rfl ?_
          refine aw_ild3 X dX7_breach_152 rfl ?_
          refine aw_sipush X (180) dX7_breach_153 (by decide) rfl ?_
          refine aw_idiv X dX7_breach_156 (by decide) rfl ?_
          refine aw_mmin X dX7_breach_157 rfl ⟨ml_X7_62, mm_min⟩ (Nat.le_of_ble_eq_true rfl) (Nat.le_of_ble_eq_true rfl) ?_
          refine aw_iconst X (1) dX7_breach_160 (by decide) rfl ?_
          refine aw_iadd X dX7_breach_161 rfl ?_
          refine aw_icmp_le (n2 := 167) X dX7_breach_162 rfl rfl (fun c162 => ?_) (fun c162 => ?_)
          · refine aw_ild3 X dX7_breach_167 rfl ?_
            refine aw_ald5 X dX7_breach_168 rfl ?_
            refine aw_iconst X (3) dX7_breach_170 (by decide) rfl ?_
            refine aw_iald X (3) dX7_breach_171 rfl (hR k9 hk9).2 rfl (by decide) (by decide) ?_
            refine aw_iadd X dX7_breach_172 rfl ?_
            refine aw_sipush X (540) dX7_breach_173 (by decide) rfl ?_
            refine aw_icmp_le (n2 := 183) X dX7_breach_176 rfl rfl (fun c176 => ?_) (fun c176 => ?_)
            · refine aw_iconst X (0) dX7_breach_183 (by decide) rfl ?_
              exact aw_iret X hret rfl dX7_breach_184 (⟨by unfold mB; rw [if_neg (fun q => q hok), if_neg (fun q => q.1 c97), if_neg (fun q => c142 q.2), if_neg (fun q => q c162), if_neg (fun q => q c176)], rfl⟩)
            · refine aw_iconst X (5) dX7_breach_179 (by decide) rfl ?_
              refine aw_goto (n := 184) X dX7_breach_180 rfl ?_
              exact aw_iret X hret rfl dX7_breach_184 (⟨by unfold mB; rw [if_neg (fun q => q hok), if_neg (fun q => q.1 c97), if_neg (fun q => c142 q.2), if_neg (fun q => q c162), if_pos c176], rfl⟩)
          · refine aw_iconst X (4) dX7_breach_165 (by decide) rfl ?_
            exact aw_iret X hret rfl dX7_breach_166 (⟨by unfold mB; rw [if_neg (fun q => q hok), if_neg (fun q => q.1 c97), if_neg (fun q => c142 q.2), if_pos c162], rfl⟩)
        · refine aw_iconst X (3) dX7_breach_145 (by decide) rfl ?_
          exact aw_iret X hret rfl dX7_breach_146 (⟨by unfold mB; rw [if_neg (fun q => q hok), if_neg (fun q => q.1 c97), if_pos ⟨c130, c142⟩], rfl⟩)
    · obtain ⟨i9, hi9, hd9⟩ := hdi.resolve_left c97
      have hi8 : iN (F k9 4) = i9 := by rw [hd9]; exact iN_nI (by omega)
      refine aw_ald0 X dX7_breach_100 rfl ?_
      refine aw_get X fd_X7_10 dX7_breach_101 rfl hmo rfl ?_
      refine aw_ald5 X dX7_breach_104 rfl ?_
      refine aw_iconst X (4) dX7_breach_106 (by decide) rfl ?_
      refine aw_iald X (4) dX7_breach_107 rfl (hR k9 hk9).2 rfl (by decide) (by decide) ?_
      refine aw_callV X dX7_breach_108 rfl (k_lget X.1 hlp hd9 hi9 (hP i9 hi9).1) cmJx4a65c_get_915e3 ml_X7_48 rfl hlp.1 rfl rfl (Nat.le_of_ble_eq_true rfl) ⟨Nat.le_of_ble_eq_true rfl, Nat.le_of_ble_eq_true rfl⟩ (aw_rs ?_)
      refine aw_castA X dX7_breach_111 rfl (kd := 0) (by decide) cc_X7_52 (hP i9 hi9).2 ?_
      refine aw_iconst X (4) dX7_breach_114 (by decide) rfl ?_
      refine aw_iald X (4) dX7_breach_115 rfl (hP i9 hi9).2 rfl (by decide) (by decide) ?_
      refine aw_ald5 X dX7_breach_116 rfl ?_
      refine aw_iconst X (0) dX7_breach_118 (by decide) rfl ?_
      refine aw_iald X (0) dX7_breach_119 rfl (hR k9 hk9).2 rfl (by decide) (by decide) ?_
      refine aw_icmp_eq (n2 := 125) X dX7_breach_120 rfl rfl (fun c120 => ?_) (fun c120 => ?_)
      · refine aw_ald5 X dX7_breach_125 rfl ?_
        refine aw_iconst X (5) dX7_breach_127 (by decide) rfl ?_
        refine aw_iald X (5) dX7_breach_128 rfl (hR k9 hk9).2 rfl (by decide) (by decide) ?_
        refine aw_iconst X (-1) dX7_breach_129 (by decide) rfl ?_
        refine aw_icmp_eq (n2 := 147) X dX7_breach_130 rfl rfl (fun c130 => ?_) (fun c130 => ?_)
        · refine aw_ald5 X dX7_breach_147 rfl ?_
          refine aw_iconst X (1) dX7_breach_149 (by decide) rfl ?_
          refine aw_iald X (1) dX7_breach_150 rfl (hR k9 hk9).2 rfl (by decide) (by decide) ?_
          refine aw_iconst X (2) dX7_breach_151 (by decide) rfl ?_
          refine aw_ild3 X dX7_breach_152 rfl ?_
          refine aw_sipush X (180) dX7_breach_153 (by decide) rfl ?_
          refine aw_idiv X dX7_breach_156 (by decide) rfl ?_
          refine aw_mmin X dX7_breach_157 rfl ⟨ml_X7_62, mm_min⟩ (Nat.le_of_ble_eq_true rfl) (Nat.le_of_ble_eq_true rfl) ?_
          refine aw_iconst X (1) dX7_breach_160 (by decide) rfl ?_
          refine aw_iadd X dX7_breach_161 rfl ?_
          refine aw_icmp_le (n2 := 167) X dX7_breach_162 rfl rfl (fun c162 => ?_) (fun c162 => ?_)
          · refine aw_ild3 X dX7_breach_167 rfl ?_
            refine aw_ald5 X dX7_breach_168 rfl ?_
            refine aw_iconst X (3) dX7_breach_170 (by decide) rfl ?_
            refine aw_iald X (3) dX7_breach_171 rfl (hR k9 hk9).2 rfl (by decide) (by decide) ?_
            refine aw_iadd X dX7_breach_172 rfl ?_
            refine aw_sipush X (540) dX7_breach_173 (by decide) rfl ?_
            refine aw_icmp_le (n2 := 183) X dX7_breach_176 rfl rfl (fun c176 => ?_) (fun c176 => ?_)
            · refine aw_iconst X (0) dX7_breach_183 (by decide) rfl ?_
              exact aw_iret X hret rfl dX7_breach_184 (⟨by unfold mB; rw [if_neg (fun q => q hok), if_neg (fun q => q.2 (by rw [hi8]; exact c120)), if_neg (fun q => q.1 c130), if_neg (fun q => q c162), if_neg (fun q => q c176)], rfl⟩)
            · refine aw_iconst X (5) dX7_breach_179 (by decide) rfl ?_
              refine aw_goto (n := 184) X dX7_breach_180 rfl ?_
              exact aw_iret X hret rfl dX7_breach_184 (⟨by unfold mB; rw [if_neg (fun q => q hok), if_neg (fun q => q.2 (by rw [hi8]; exact c120)), if_neg (fun q => q.1 c130), if_neg (fun q => q c162), if_pos c176], rfl⟩)
          · refine aw_iconst X (4) dX7_breach_165 (by decide) rfl ?_
            exact aw_iret X hret rfl dX7_breach_166 (⟨by unfold mB; rw [if_neg (fun q => q hok), if_neg (fun q => q.2 (by rw [hi8]; exact c120)), if_neg (fun q => q.1 c130), if_pos c162], rfl⟩)
        · refine aw_ild4 X dX7_breach_133 rfl ?_
          refine aw_ald5 X dX7_breach_135 rfl ?_
          refine aw_iconst X (5) dX7_breach_137 (by decide) rfl ?_
          refine aw_iald X (5) dX7_breach_138 rfl (hR k9 hk9).2 rfl (by decide) (by decide) ?_
          refine aw_ishr X dX7_breach_139 rfl ?_
          refine aw_iconst X (1) dX7_breach_140 (by decide) rfl ?_
          refine aw_iand X dX7_breach_141 rfl ?_
          refine aw_if_ne (n2 := 147) X dX7_breach_142 rfl rfl (fun c142 => ?_) (fun c142 => ?_)
          · refine aw_ald5 X dX7_breach_147 rfl ?_
            refine aw_iconst X (1) dX7_breach_149 (by decide) rfl ?_
            refine aw_iald X (1) dX7_breach_150 rfl (hR k9 hk9).2 rfl (by decide) (by decide) ?_
            refine aw_iconst X (2) dX7_breach_151 (by decide) rfl ?_
            refine aw_ild3 X dX7_breach_152 rfl ?_
            refine aw_sipush X (180) dX7_breach_153 (by decide) rfl ?_
            refine aw_idiv X dX7_breach_156 (by decide) rfl ?_
            refine aw_mmin X dX7_breach_157 rfl ⟨ml_X7_62, mm_min⟩ (Nat.le_of_ble_eq_true rfl) (Nat.le_of_ble_eq_true rfl) ?_
            refine aw_iconst X (1) dX7_breach_160 (by decide) rfl ?_
            refine aw_iadd X dX7_breach_161 rfl ?_
            refine aw_icmp_le (n2 := 167) X dX7_breach_162 rfl rfl (fun c162 => ?_) (fun c162 => ?_)
            · refine aw_ild3 X dX7_breach_167 rfl ?_
              refine aw_ald5 X dX7_breach_168 rfl ?_
              refine aw_iconst X (3) dX7_breach_170 (by decide) rfl ?_
              refine aw_iald X (3) dX7_breach_171 rfl (hR k9 hk9).2 rfl (by decide) (by decide) ?_
              refine aw_iadd X dX7_breach_172 rfl ?_
              refine aw_sipush X (540) dX7_breach_173 (by decide) rfl ?_
              refine aw_icmp_le (n2 := 183) X dX7_breach_176 rfl rfl (fun c176 => ?_) (fun c176 => ?_)
              · refine aw_iconst X (0) dX7_breach_183 (by decide) rfl ?_
                exact aw_iret X hret rfl dX7_breach_184 (⟨by unfold mB; rw [if_neg (fun q => q hok), if_neg (fun q => q.2 (by rw [hi8]; exact c120)), if_neg (fun q => c142 q.2), if_neg (fun q => q c162), if_neg (fun q => q c176)], rfl⟩)
              · refine aw_iconst X (5) dX7_breach_179 (by decide) rfl ?_
                refine aw_goto (n := 184) X dX7_breach_180 rfl ?_
                exact aw_iret X hret rfl dX7_breach_184 (⟨by unfold mB; rw [if_neg (fun q => q hok), if_neg (fun q => q.2 (by rw [hi8]; exact c120)), if_neg (fun q => c142 q.2), if_neg (fun q => q c162), if_pos c176], rfl⟩)
            · refine aw_iconst X (4) dX7_breach_165 (by decide) rfl ?_
              exact aw_iret X hret rfl dX7_breach_166 (⟨by unfold mB; rw [if_neg (fun q => q hok), if_neg (fun q => q.2 (by rw [hi8]; exact c120)), if_neg (fun q => c142 q.2), if_pos c162], rfl⟩)
          · refine aw_iconst X (3) dX7_breach_145 (by decide) rfl ?_
            exact aw_iret X hret rfl dX7_breach_146 (⟨by unfold mB; rw [if_neg (fun q => q hok), if_neg (fun q => q.2 (by rw [hi8]; exact c120)), if_pos ⟨c130, c142⟩], rfl⟩)
      · refine aw_iconst X (2) dX7_breach_123 (by decide) rfl ?_
        exact aw_iret X hret rfl dX7_breach_124 (⟨by unfold mB; rw [if_neg (fun q => q hok), if_pos ⟨c97, by rw [hi8]; exact c120⟩], rfl⟩)
  · intro j k hjk ih y7 x hx hI
    refine aw_ild6 X dX7_breach_13 rfl ?_
    refine aw_ald0 X dX7_breach_15 rfl ?_
    refine aw_get X fd_X7_10 dX7_breach_16 rfl hmo rfl ?_
    refine aw_callV X dX7_breach_19 rfl (k_size X.1 hlp) cmJx4a65c_size_8abf5 ml_X7_38 rfl hlp.1 rfl rfl (Nat.le_of_ble_eq_true rfl) ⟨Nat.le_of_ble_eq_true rfl, Nat.le_of_ble_eq_true rfl⟩ (aw_rs ?_)
    refine aw_icmp_ge (n2 := 92) X dX7_breach_22 rfl rfl (fun c22 => absurd c22 (ge_f hx (by omega) (by omega))) (fun c22 => ?_)
    refine aw_ald0 X dX7_breach_25 rfl ?_
    refine aw_get X fd_X7_10 dX7_breach_26 rfl hmo rfl ?_
    refine aw_ild6 X dX7_breach_29 rfl ?_
    refine aw_callV X dX7_breach_31 rfl (k_lget X.1 hlp hx (by omega) (hP k (by omega)).1) cmJx4a65c_get_915e3 ml_X7_48 rfl hlp.1 rfl rfl (Nat.le_of_ble_eq_true rfl) ⟨Nat.le_of_ble_eq_true rfl, Nat.le_of_ble_eq_true rfl⟩ (aw_rs ?_)
    refine aw_castA X dX7_breach_34 rfl (kd := 0) (by decide) cc_X7_52 (hP k (by omega)).2 ?_
    refine aw_ast7 X dX7_breach_37 rfl (by decide) rfl ?_
    refine aw_ald5 X dX7_breach_39 rfl ?_
    refine aw_iconst X (2) dX7_breach_41 (by decide) rfl ?_
    refine aw_iald X (2) dX7_breach_42 rfl (hR k9 hk9).2 rfl (by decide) (by decide) ?_
    refine aw_ild6 X dX7_breach_43 rfl ?_
    refine aw_ishr X dX7_breach_45 rfl ?_
    refine aw_iconst X (1) dX7_breach_46 (by decide) rfl ?_
    refine aw_iand X dX7_breach_47 rfl ?_
    refine aw_iconst X (1) dX7_breach_48 (by decide) rfl ?_
    refine aw_icmp_ne (n2 := 86) X dX7_breach_49 rfl rfl (fun c49 => ?_) (fun c49 => ?_)
    · refine aw_iinc6 X (1) dX7_breach_86 (by decide) rfl (by decide) rfl ?_
      refine aw_goto (n := 13) X dX7_breach_89 rfl ?_
      exact ih _ (x + 1) (nx hx) (fun i hi => (Nat.lt_or_eq_of_le (Nat.le_of_lt_succ hi)).elim (hI i) (fun e q => by rw [e] at q; exact c49 (by rw [hx]; exact q.1)))
    · refine aw_ald5 X dX7_breach_52 rfl ?_
      refine aw_iconst X (0) dX7_breach_54 (by decide) rfl ?_
      refine aw_iald X (0) dX7_breach_55 rfl (hR k9 hk9).2 rfl (by decide) (by decide) ?_
      refine aw_ald7 X dX7_breach_56 rfl ?_
      refine aw_iconst X (3) dX7_breach_58 (by decide) rfl ?_
      refine aw_iald X (3) dX7_breach_59 rfl (hP k (by omega)).2 rfl (by decide) (by decide) ?_
      refine aw_icmp_lt (n2 := 84) X dX7_breach_60 rfl rfl (fun c60 => ?_) (fun c60 => ?_)
      · refine aw_iconst X (1) dX7_breach_84 (by decide) rfl ?_
        exact aw_iret X hret rfl dX7_breach_85 (⟨by unfold mB; rw [if_pos (fun q => (of_decide_eq_true (show okB σ.P σ.np F k9 = true from q)) k (by omega) ⟨by show (F k9 2 >>> (nI k &&& 31)) &&& 1 = 1; rw [← hx]; exact c49, Or.inl c60⟩)], rfl⟩)
      · refine aw_ald5 X dX7_breach_63 rfl ?_
        refine aw_iconst X (0) dX7_breach_65 (by decide) rfl ?_
        refine aw_iald X (0) dX7_breach_66 rfl (hR k9 hk9).2 rfl (by decide) (by decide) ?_
        refine aw_ald7 X dX7_breach_67 rfl ?_
        refine aw_iconst X (4) dX7_breach_69 (by decide) rfl ?_
        refine aw_iald X (4) dX7_breach_70 rfl (hP k (by omega)).2 rfl (by decide) (by decide) ?_
        refine aw_icmp_gt (n2 := 84) X dX7_breach_71 rfl rfl (fun c71 => ?_) (fun c71 => ?_)
        · refine aw_iconst X (1) dX7_breach_84 (by decide) rfl ?_
          exact aw_iret X hret rfl dX7_breach_85 (⟨by unfold mB; rw [if_pos (fun q => (of_decide_eq_true (show okB σ.P σ.np F k9 = true from q)) k (by omega) ⟨by show (F k9 2 >>> (nI k &&& 31)) &&& 1 = 1; rw [← hx]; exact c49, Or.inr (Or.inl c71)⟩)], rfl⟩)
        · refine aw_ald1 X dX7_breach_74 rfl ?_
          refine aw_ild2 X dX7_breach_75 rfl ?_
          refine aw_ild6 X dX7_breach_76 rfl ?_
          refine aw_callS X dX7_breach_78 rfl (k_X7_isDead X.1 hw hR hx9 hk9 x) cmX7_isDead ml_X7_58 rfl rfl (Nat.le_of_ble_eq_true rfl) ⟨Nat.le_of_ble_eq_true rfl, Nat.le_of_ble_eq_true rfl⟩ (aw_rs ?_)
          refine aw_if_eq (n2 := 86) X dX7_breach_81 rfl rfl (fun c81 => ?_) (fun c81 => ?_)
          · refine aw_iinc6 X (1) dX7_breach_86 (by decide) rfl (by decide) rfl ?_
            refine aw_goto (n := 13) X dX7_breach_89 rfl ?_
            exact ih _ (x + 1) (nx hx) (fun i hi => (Nat.lt_or_eq_of_le (Nat.le_of_lt_succ hi)).elim (hI i) (fun e q => by rw [e] at q; exact q.2.elim c60 (fun q => q.elim c71 (fun q => bI_n c81 (by rw [hx]; exact q)))))
          · refine aw_iconst X (1) dX7_breach_84 (by decide) rfl ?_
            exact aw_iret X hret rfl dX7_breach_85 (⟨by unfold mB; rw [if_pos (fun q => (of_decide_eq_true (show okB σ.P σ.np F k9 = true from q)) k (by omega) ⟨by show (F k9 2 >>> (nI k &&& 31)) &&& 1 = 1; rw [← hx]; exact c49, Or.inr (Or.inr (by rw [← hx]; exact bI_y c81))⟩)], rfl⟩)
