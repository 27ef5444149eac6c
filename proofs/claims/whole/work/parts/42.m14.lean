/-! THE MODEL'S MINUTES -/
/-- an iterator is none of the world's cells -/
theorem MoW.itr {G : GG} {h : AH} {tg mo : Nat} {A : KA} {t : Int32} {sm : Int64} {σ : NS} (w : MoW G h tg mo A t sm σ) {z : Nat} {y c : AC} (hz : h z = some y) (hy : kd y.2 = 0) : MoW G (hu h z c) tg mo A t sm σ := by
  obtain ⟨h1, ⟨a1, a2, a3⟩, ⟨b1, b2, b3⟩, h4⟩ := w
  have hk : ∀ a d, h a = some d → kd d.2 ≠ 0 → hu h z c a = some d := fun a d e n => (hu_n (kk_ne e hz (by rw [hy]; exact n))).trans e
  exact ⟨hk _ _ h1 (show (9 : Nat) ≠ 0 by decide), ⟨a1.keptK (fun a d e q => hk a d e (by omega)), a2.keptK (fun a d e q => hk a d e (by omega)), a3.keptK (fun a d e q => hk a d e (by omega))⟩, ⟨b1.keptK (fun a d e q => hk a d e (by omega)), b2.keptK (fun a d e q => hk a d e (by omega)), b3.keptK (fun a d e q => hk a d e (by omega))⟩, h4⟩
theorem ti_max {x : Int32} (h : 0 ≤ x ∧ x ≤ 100) : (if 0 < x - 1 then x - 1 else 0) = if 0 < x then x - 1 else x := by
  obtain ⟨k, hk, e⟩ := i_le (n := 100) h.1 h.2 (by decide)
  rw [e]
  exact (by decide +kernel : ∀ k, k < 101 → (if 0 < nI k - 1 then nI k - 1 else 0) = if 0 < nI k then nI k - 1 else nI k) k (by omega)
/-- the wear of the first k figures, where it is the hour -/
def wK (c : Prop) [Decidable c] (F : Nat → Nat → Int32) (k : Nat) : Nat → Nat → Int32 := if c then wearF1 F k else F
theorem wearF1_s {F : Nat → Nat → Int32} {k : Nat} (h : ¬ F k 3 = 0) : upF (wearF1 F k) k (wearR (F k) 1) = wearF1 F (k + 1) := funext fun i => by
  unfold upF wearF1
  by_cases q : i = k
  · rw [if_pos q, q, if_pos ⟨Nat.lt_succ_self _, h⟩]
  · rw [if_neg q]
    by_cases z : i < k ∧ F i 3 ≠ 0
    · rw [if_pos z, if_pos ⟨by omega, z.2⟩]
    · rw [if_neg z, if_neg (fun y => z ⟨by omega, y.2⟩)]
theorem mnS_eq (sp : Int32) (σ : NS) : mnS sp σ = (mn2 sp σ).wF (mn2 sp σ).nf (wK (σ.mi + 1 - (σ.mi + 1) / 30 * 30 = 0) (mn2 sp σ).F (mn2 sp σ).nf) := by
  unfold mnS wK
  split
  · rfl
  · rfl
theorem mn2_mi (sp : Int32) (σ : NS) : (mn2 sp σ).mi = σ.mi + 1 := by
  unfold mn2
  split <;> rfl
theorem mn2_nf (sp : Int32) (σ : NS) : (mn2 sp σ).nf = σ.nf := by
  unfold mn2
  split <;> rfl
theorem wf_id (σ : NS) : σ.wF σ.nf σ.F = σ := rfl
theorem wK_0 {c : Prop} [Decidable c] (F : Nat → Nat → Int32) : wK c F 0 = F := by
  unfold wK
  rw [wearF1_0]
  split <;> rfl
theorem wK_at {c : Prop} [Decidable c] (F : Nat → Nat → Int32) (k : Nat) : wK c F k k = F k := by
  unfold wK
  split
  · exact wearF1_at F k
  · rfl
theorem wK_t {c : Prop} [Decidable c] (h : c) {F : Nat → Nat → Int32} {k : Nat} (h3 : ¬ F k 3 = 0) : upF (wK c F k) k (wearR (F k) 1) = wK c F (k + 1) := by
  unfold wK
  rw [if_pos h, if_pos h]
  exact wearF1_s h3
theorem wK_b {c : Prop} [Decidable c] {F : Nat → Nat → Int32} {k : Nat} (h3 : F k 3 = 0) : wK c F (k + 1) = wK c F k := by
  unfold wK
  rw [wearF1_n (fun q => q h3)]
theorem wK_f {c : Prop} [Decidable c] (h : ¬ c) {F : Nat → Nat → Int32} {k : Nat} : wK c F (k + 1) = wK c F k := by
  unfold wK
  rw [if_neg h, if_neg h]
theorem u_step {a b c u : Int32} (h : u = b - c) : u + (a - b) = a - c := by
  rw [h]
  apply Int32.toBitVec_inj.mp
  simp only [Int32.toBitVec_add, Int32.toBitVec_sub, BitVec.sub_eq_add_neg]
  rw [show b.toBitVec + -c.toBitVec + (a.toBitVec + -b.toBitVec) = (a.toBitVec + -c.toBitVec) + (b.toBitVec + -b.toBitVec) by ac_rfl, BitVec.add_right_neg, BitVec.add_zero]

set_option maxHeartbeats 4000000 in
set_option maxRecDepth 100000 in
theorem k_X7_go {l : Launch} {s0 : State} {a0 : Array Value} {G : GG} (X : CX l s0 a0 G) {h : AH} {tg mo : Nat} {A : KA} {t : Int32} {sm : Int64} {σ : NS} (htg : tg ≠ 0) (w : MoW G h tg mo A t sm σ) (hv : IV σ) {m9 M : Nat} {i9 : Int32} (hi9 : i9 = nI m9) (hM : σ.mi = nI M) (hm9 : M + m9 ≤ 540) (sp : Int32) (hsp : sp = 0 ∨ sp = 1)  : Con l s0 G yX7_go cX7_go 7 (some .int) 3 (25 * m9) (100 * m9) tg [.ref mo, .int i9, .int sp] h (fun r h2 => some (.int ((goN sp m9 σ).o 4 - σ.o 4)) = r ∧ MoW G h2 tg mo A t sm (goN sp m9 σ)) := by
  refine Con.of X (by decide +kernel) [some (.ref mo), some (.int i9), some (.int sp), none, none, none, none] rfl (Nat.le_of_ble_eq_true rfl) (fun p e s m below meth c X hnm hret => ?_)
  have w0 := w
  obtain ⟨hmo, ⟨hlp, hls, hlf⟩, ⟨hP, hS, hF⟩, ⟨hn8, hn10, hn12⟩, hdd⟩ := id w
  refine aw_iconst X (0) dX7_go_0 (by decide) rfl ?_
  refine aw_ist3 X dX7_go_1 rfl (by decide) rfl ?_
  refine aw_iconst X (0) dX7_go_2 (by decide) rfl ?_
  refine aw_ist4 X dX7_go_3 rfl (by decide) rfl ?_
  refine aw_dn (n := m9) (A := fun j k => ∀ (y5 : Option Value), ∀ (y6 : Option Value), ∀ (h8 : AH), ∀ (x : Int32), ∀ (u : Int32), ∀ (σk : NS), ∀ (b : Nat), ∀ (d : Nat), (x = nI k) → (σk = goN sp k σ) → (MoW G h8 tg mo A t sm σk) → (IV σk) → (σk.mi = nI (M + k)) → (u = σk.o 4 - σ.o 4) → (25 * j ≤ b) → (100 * j ≤ d) → AW p l e _ s m _ below meth c _ s0 G 7 tg _ h8 b d 5 [some (.ref mo), some (.int i9), some (.int sp), some (.int u), some (.int x), y5, y6] []) ?_ ?_ m9 0 rfl none none h 0 0 σ (25 * m9) (100 * m9) nI_0.symm rfl w0 hv hM (by rw [Int32.sub_self]) (by omega) (by omega)
  · intro y5 y6 h8 x u σk b d hx hσ w8 hvk hmk hu9 hb hd
    clear hmo hlp hls hlf hP hS hF hdd
    obtain ⟨hmo, ⟨hlp, hls, hlf⟩, ⟨hP, hS, hF⟩, -, hdd⟩ := id w8
    refine aw_ild4 X dX7_go_5 rfl ?_
    refine aw_ild1 X dX7_go_7 rfl ?_
    refine aw_icmp_ge (n2 := 109) X dX7_go_8 rfl rfl (fun c8 => ?_) (fun c8 => absurd (by rw [hi9]; exact ge_t hx (Nat.le_refl _) (by omega)) c8)
    refine aw_ild3 X dX7_go_109 rfl ?_
    exact aw_iret X hret rfl dX7_go_110 (⟨by rw [hu9, hσ], by rw [← hσ]; exact w8⟩)
  · intro j k hjk ih y5 y6 h8 x u σk b d hx hσ w8 hvk hmk hu9 hb hd
    clear hmo hlp hls hlf hP hS hF hdd
    obtain ⟨hmo, ⟨hlp, hls, hlf⟩, ⟨hP, hS, hF⟩, -, hdd⟩ := id w8
    refine aw_ild4 X dX7_go_5 rfl ?_
    refine aw_ild1 X dX7_go_7 rfl ?_
    refine aw_icmp_ge (n2 := 109) X dX7_go_8 rfl rfl (fun c8 => absurd c8 (by rw [hi9]; exact ge_f hx (by omega) (by omega))) (fun c8 => ?_)
    refine aw_ald0 X dX7_go_11 rfl ?_
    refine aw_dup X dX7_go_12 rfl rfl ?_
    refine aw_get X fd_X7_86 dX7_go_13 rfl hmo rfl ?_
    refine aw_iconst X (1) dX7_go_16 (by decide) rfl ?_
    refine aw_iadd X dX7_go_17 rfl ?_
    refine aw_put X fd_X7_86 fw_X7_4 dX7_go_18 rfl htg hmo rfl rfl (Nat.le_of_ble_eq_true rfl) ?_
    have hv1 : IV (σk.up 0 (σk.mi + 1)) := by
      refine hvk.vW ?_ hvk.tiB hvk.lpB hvk.beB
      show 0 ≤ σk.mi + 1 ∧ σk.mi + 1 ≤ 540
      rw [hmk, nI_1]
      exact i_in (n := 540) (by omega) (by decide)
    refine aw_genP (Pr := fun h3 => MoW G h3 tg mo A t sm (σk.up 0 (σk.mi + 1))) (w8.obj t sm (upd σk.v 0 (σk.mi + 1))) (fun h1 w1 => ?_)
    obtain ⟨σ0, hσ0⟩ : ∃ σ0, σ0 = σk.up 0 (σk.mi + 1) := ⟨_, rfl⟩
    rw [← hσ0] at w1 hv1
    have eo0 : σ0.o = σk.o := by rw [hσ0]; rfl
    clear hmo hlp hls hlf hP hS hF hdd
    obtain ⟨hmo, ⟨hlp, hls, hlf⟩, ⟨hP, hS, hF⟩, -, hdd⟩ := id w1
    refine aw_ild3 X dX7_go_21 rfl ?_
    refine aw_ald0 X dX7_go_22 rfl ?_
    obtain ⟨b1, rfl⟩ : ∃ b1, b = b1 + 24 := ⟨b - 24, by omega⟩
    obtain ⟨d1, rfl⟩ : ∃ d1, d = d1 + 96 := ⟨d - 96, by omega⟩
    refine aw_callV X dX7_go_23 rfl (k_X7_play X.1 htg w1 hv1) cmX7_play ml_X7_182 rfl hmo rfl rfl (Nat.le_of_ble_eq_true rfl) ⟨Nat.le_of_ble_eq_true rfl, Nat.le_of_ble_eq_true rfl⟩ (fun r h2 hq hf => ?_)
    obtain ⟨rfl, w2⟩ := hq
    obtain ⟨σ1, hσ1⟩ : ∃ σ1, σ1 = mn1 σk := ⟨_, rfl⟩
    rw [show σ0.wO (playR σ0.o) = σ1 by rw [eo0, hσ0, hσ1]; rfl] at w2
    have eti : σ1.ti = σk.ti := by rw [hσ1]; rfl
    rw [eo0]
    clear hmo hlp hls hlf hP hS hF hdd
    obtain ⟨hmo, ⟨hlp, hls, hlf⟩, ⟨hP, hS, hF⟩, -, hdd⟩ := id w2
    refine aw_iadd X dX7_go_26 rfl ?_
    refine aw_ist3 X dX7_go_27 rfl (by decide) rfl ?_
    refine aw_ild2 X dX7_go_28 rfl ?_
    refine aw_if_ne (n2 := 46) X dX7_go_29 rfl rfl (fun c29 => ?_) (fun c29 => ?_)
    · refine aw_genP (Pr := fun h3 => MoW G h3 tg mo A t sm (mn2 sp σk)) (by
        rw [show mn2 sp σk = σ1 from by rw [hσ1]; exact if_neg (fun q => c29 q.1)]
        exact w2) (fun h3 w3 => ?_)
      obtain ⟨σm, hσm⟩ : ∃ σm, σm = mn2 sp σk := ⟨_, rfl⟩
      have hmi : σm.mi = σk.mi + 1 := by rw [hσm]; exact mn2_mi sp σk
      rw [← hσm] at w3
      clear hmo hlp hls hlf hP hS hF hdd
      obtain ⟨hmo, ⟨hlp, hls, hlf⟩, ⟨hP, hS, hF⟩, -, hdd⟩ := id w3
      refine aw_ald0 X dX7_go_46 rfl ?_
      refine aw_get X fd_X7_16 dX7_go_47 rfl hmo rfl ?_
      obtain ⟨b2, rfl⟩ : ∃ b2, b1 = b2 + 1 := ⟨b1 - 1, by omega⟩
      obtain ⟨d2, rfl⟩ : ∃ d2, d1 = d2 + 4 := ⟨d1 - 4, by omega⟩
      refine aw_callV X dX7_go_50 rfl (k_Jx4a65c_iterator_32c93 X.1 htg hlf.1) cmJx4a65c_iterator_32c93 ml_X7_72 rfl hlf.1 rfl rfl (Nat.le_of_ble_eq_true rfl) ⟨Nat.le_of_ble_eq_true rfl, Nat.le_of_ble_eq_true rfl⟩ (fun r h2 hq hf => ?_)
      obtain ⟨q50, hq50, rfl, rfl⟩ := hq
      refine aw_ast5 X dX7_go_53 rfl (by decide) rfl ?_
      refine aw_dn (n := σm.nf) (A := fun j2 t9 => ∀ (y6 : Option Value), ∀ (h9 : AH), ∀ (ls : Int32), (MoW G h9 tg mo A t sm (σm.wF σm.nf (wK (σk.mi + 1 - (σk.mi + 1) / 30 * 30 = 0) σm.F t9))) → (h9 q50 = some (tg, oItr (nI t9) ls A.mdf A.Lf)) → AW p l e _ s m _ below meth c _ s0 G 7 tg _ h9 b2 d2 55 [some (.ref mo), some (.int i9), some (.int sp), some (.int (u + (playR σk.o 4 - σk.o 4))), some (.int x), some (.ref q50), y6] []) ?_ ?_ σm.nf 0 rfl _ _ (-1) (by rw [wK_0, wf_id]; exact w3.ext (fun a c e => hu_k hq50 e)) hu_s
      · intro y6 h9 ls w5 hit
        clear hmo hlp hls hlf hP hS hF hdd
        obtain ⟨hmo, ⟨hlp, hls, hlf⟩, ⟨hP, hS, hF⟩, -, hdd⟩ := id w5
        refine aw_ald5 X dX7_go_55 rfl ?_
        refine aw_callF X dX7_go_57 rfl (k_Jx35411_hasNext_aae02 X.1 hit hlf.lr rfl (Nat.le_refl _)) cfJx35411_hasNext_aae02 ml_X7_76 rfl hit rfl rfl (Nat.le_of_ble_eq_true rfl) ⟨Nat.le_of_ble_eq_true rfl, Nat.le_of_ble_eq_true rfl⟩ (aw_rs ?_)
        refine aw_if_eq (n2 := 103) X dX7_go_62 rfl rfl (fun c62 => ?_) (fun c62 => absurd (bI_f (Nat.lt_irrefl _)) c62)
        refine aw_iinc4 X (1) dX7_go_103 (by decide) rfl (by decide) rfl ?_
        refine aw_goto (n := 5) X dX7_go_106 rfl ?_
        have hwn : MoW G h9 tg mo A t sm (mnS sp σk) := by
          rw [mnS_eq, ← hσm]
          exact w5
        have hgo : goN sp (k + 1) σ = mnS sp σk := by rw [hσ]; rfl
        obtain ⟨v1, v2⟩ := IV_go (sp := sp) hv hM (k + 1) (by omega)
        rw [hgo] at v1 v2
        exact ih _ _ h9 (x + 1) _ (mnS sp σk) b2 d2 (nx hx) hgo.symm hwn v1 v2 (by rw [mnS_o]; exact u_step hu9) (by omega) (by omega)
      · intro j2 t9 hjt ih2 y6 h9 ls w5 hit
        clear hmo hlp hls hlf hP hS hF hdd
        obtain ⟨hmo, ⟨hlp, hls, hlf⟩, ⟨hP, hS, hF⟩, -, hdd⟩ := id w5
        have hlt : t9 < σm.nf := by omega
        have hF9 : h9 (A.fa t9) = some (tg, oRow 6 (σm.F t9)) := by
          have := (hF t9 hlt).2
          rw [show (σm.wF σm.nf (wK (σk.mi + 1 - (σk.mi + 1) / 30 * 30 = 0) σm.F t9)).F t9 = σm.F t9 from wK_at _ _] at this
          exact this
        have hne : A.fa t9 ≠ q50 := kk_ne hF9 hit (show (100 : Nat) ≠ 0 by decide)
        have w6 := w5.itr (c := (tg, oItr (nI (t9 + 1)) (nI t9) A.mdf A.Lf)) hit rfl
        have hrow : hu h9 q50 (tg, oItr (nI (t9 + 1)) (nI t9) A.mdf A.Lf) (A.fa t9) = some (tg, oRow 6 (σm.F t9)) := (hu_n hne).trans hF9
        refine aw_ald5 X dX7_go_55 rfl ?_
        refine aw_callF X dX7_go_57 rfl (k_Jx35411_hasNext_aae02 X.1 hit hlf.lr rfl (Nat.le_of_lt hlt)) cfJx35411_hasNext_aae02 ml_X7_76 rfl hit rfl rfl (Nat.le_of_ble_eq_true rfl) ⟨Nat.le_of_ble_eq_true rfl, Nat.le_of_ble_eq_true rfl⟩ (aw_rs ?_)
        refine aw_if_eq (n2 := 103) X dX7_go_62 rfl rfl (fun c62 => absurd c62 (fun q => bI_n q hlt)) (fun c62 => ?_)
        refine aw_ald5 X dX7_go_65 rfl ?_
        refine aw_callF X dX7_go_67 rfl (k_Jx35411_next_0502b X.1 htg hit hlf.lr rfl hlt (hF t9 hlt).1) cfJx35411_next_0502b ml_X7_82 rfl hit rfl rfl (Nat.le_of_ble_eq_true rfl) ⟨Nat.le_of_ble_eq_true rfl, Nat.le_of_ble_eq_true rfl⟩ (aw_rs ?_)
        refine aw_castA X dX7_go_72 rfl (kd := 0) (by decide) cc_X7_52 hrow ?_
        refine aw_ast6 X dX7_go_75 rfl (by decide) rfl ?_
        refine aw_ald0 X dX7_go_77 rfl ?_
        refine aw_get X fd_X7_86 dX7_go_78 rfl w6.1 rfl ?_
        refine aw_bipush X (30) dX7_go_81 (by decide) rfl ?_
        refine aw_irem X dX7_go_83 (by decide) rfl ?_
        refine aw_if_ne (n2 := 100) X dX7_go_84 rfl rfl (fun c84 => ?_) (fun c84 => ?_)
        · refine aw_goto (n := 55) X dX7_go_100 rfl ?_
          exact ih2 _ _ _ (by rw [wK_f (fun q => c84 (by rw [show (σm.wF σm.nf (wK (σk.mi + 1 - (σk.mi + 1) / 30 * 30 = 0) σm.F t9)).mi = σk.mi + 1 from hmi]; exact q))]; exact w6) hu_s
        · refine aw_ald6 X dX7_go_87 rfl ?_
          refine aw_iconst X (3) dX7_go_89 (by decide) rfl ?_
          refine aw_iald X (3) dX7_go_90 rfl hrow rfl (by decide) (by decide) ?_
          refine aw_if_eq (n2 := 100) X dX7_go_91 rfl rfl (fun c91 => ?_) (fun c91 => ?_)
          · refine aw_goto (n := 55) X dX7_go_100 rfl ?_
            exact ih2 _ _ _ (by rw [wK_b c91]; exact w6) hu_s
          · refine aw_ald6 X dX7_go_94 rfl ?_
            refine aw_iconst X (1) dX7_go_96 (by decide) rfl ?_
            refine aw_callS X dX7_go_97 rfl (k_X7_wear X.1 htg hrow 1) cmX7_wear ml_X7_144 rfl rfl (Nat.le_of_ble_eq_true rfl) ⟨Nat.le_of_ble_eq_true rfl, Nat.le_of_ble_eq_true rfl⟩ (aw_rv ?_)
            refine aw_goto (n := 55) X dX7_go_100 rfl ?_
            have hcc : (σk.mi + 1 - (σk.mi + 1) / 30 * 30 = 0) := by
              have c9 := c84
              rw [show (σm.wF σm.nf (wK (σk.mi + 1 - (σk.mi + 1) / 30 * 30 = 0) σm.F t9)).mi = σk.mi + 1 from hmi] at c9
              exact c9
            exact ih2 _ _ _ (by rw [← wK_t hcc c91]; exact w6.fig hlt (wearR (σm.F t9) 1)) ((hu_n hne.symm).trans hu_s)
    · refine aw_ald0 X dX7_go_32 rfl ?_
      refine aw_iconst X (0) dX7_go_33 (by decide) rfl ?_
      refine aw_ald0 X dX7_go_34 rfl ?_
      refine aw_get X fd_X7_185 dX7_go_35 rfl hmo rfl ?_
      refine aw_iconst X (1) dX7_go_38 (by decide) rfl ?_
      refine aw_isub X dX7_go_39 rfl ?_
      refine aw_mmax X dX7_go_40 rfl ⟨ml_X7_173, mm_max⟩ (Nat.le_of_ble_eq_true rfl) (Nat.le_of_ble_eq_true rfl) ?_
      refine aw_put X fd_X7_185 fw_X7_11 dX7_go_43 rfl htg hmo rfl rfl (Nat.le_of_ble_eq_true rfl) ?_
      refine aw_genP (Pr := fun h3 => MoW G h3 tg mo A t sm (mn2 sp σk)) (by
        rw [show mn2 sp σk = σ1.up 1 (if 0 < σ1.ti - 1 then σ1.ti - 1 else 0) from by
          rw [eti, ti_max hvk.tiB]
          unfold mn2
          by_cases c : 0 < σk.ti
          · rw [if_pos ⟨c29, c⟩, if_pos c, hσ1]
          · rw [if_neg (fun q => c q.2), if_neg c, hσ1]
            show mn1 σk = (mn1 σk).wV (upd (mn1 σk).v 1 σk.ti)
            rw [upd_id (r := (mn1 σk).v) (k := 1) (x := σk.ti) rfl]
            rfl]
        exact w2.obj t sm (upd σ1.v 1 (if 0 < σ1.ti - 1 then σ1.ti - 1 else 0))) (fun h3 w3 => ?_)
      obtain ⟨σm, hσm⟩ : ∃ σm, σm = mn2 sp σk := ⟨_, rfl⟩
      have hmi : σm.mi = σk.mi + 1 := by rw [hσm]; exact mn2_mi sp σk
      rw [← hσm] at w3
      clear hmo hlp hls hlf hP hS hF hdd
      obtain ⟨hmo, ⟨hlp, hls, hlf⟩, ⟨hP, hS, hF⟩, -, hdd⟩ := id w3
      refine aw_ald0 X dX7_go_46 rfl ?_
      refine aw_get X fd_X7_16 dX7_go_47 rfl hmo rfl ?_
      obtain ⟨b2, rfl⟩ : ∃ b2, b1 = b2 + 1 := ⟨b1 - 1, by omega⟩
      obtain ⟨d2, rfl⟩ : ∃ d2, d1 = d2 + 4 := ⟨d1 - 4, by omega⟩
      refine aw_callV X dX7_go_50 rfl (k_Jx4a65c_iterator_32c93 X.1 htg hlf.1) cmJx4a65c_iterator_32c93 ml_X7_72 rfl hlf.1 rfl rfl (Nat.le_of_ble_eq_true rfl) ⟨Nat.le_of_ble_eq_true rfl, Nat.le_of_ble_eq_true rfl⟩ (fun r h2 hq hf => ?_)
      obtain ⟨q50, hq50, rfl, rfl⟩ := hq
      refine aw_ast5 X dX7_go_53 rfl (by decide) rfl ?_
      refine aw_dn (n := σm.nf) (A := fun j2 t9 => ∀ (y6 : Option Value), ∀ (h9 : AH), ∀ (ls : Int32), (MoW G h9 tg mo A t sm (σm.wF σm.nf (wK (σk.mi + 1 - (σk.mi + 1) / 30 * 30 = 0) σm.F t9))) → (h9 q50 = some (tg, oItr (nI t9) ls A.mdf A.Lf)) → AW p l e _ s m _ below meth c _ s0 G 7 tg _ h9 b2 d2 55 [some (.ref mo), some (.int i9), some (.int sp), some (.int (u + (playR σk.o 4 - σk.o 4))), some (.int x), some (.ref q50), y6] []) ?_ ?_ σm.nf 0 rfl _ _ (-1) (by rw [wK_0, wf_id]; exact w3.ext (fun a c e => hu_k hq50 e)) hu_s
      · intro y6 h9 ls w5 hit
        clear hmo hlp hls hlf hP hS hF hdd
        obtain ⟨hmo, ⟨hlp, hls, hlf⟩, ⟨hP, hS, hF⟩, -, hdd⟩ := id w5
        refine aw_ald5 X dX7_go_55 rfl ?_
        refine aw_callF X dX7_go_57 rfl (k_Jx35411_hasNext_aae02 X.1 hit hlf.lr rfl (Nat.le_refl _)) cfJx35411_hasNext_aae02 ml_X7_76 rfl hit rfl rfl (Nat.le_of_ble_eq_true rfl) ⟨Nat.le_of_ble_eq_true rfl, Nat.le_of_ble_eq_true rfl⟩ (aw_rs ?_)
        refine aw_if_eq (n2 := 103) X dX7_go_62 rfl rfl (fun c62 => ?_) (fun c62 => absurd (bI_f (Nat.lt_irrefl _)) c62)
        refine aw_iinc4 X (1) dX7_go_103 (by decide) rfl (by decide) rfl ?_
        refine aw_goto (n := 5) X dX7_go_106 rfl ?_
        have hwn : MoW G h9 tg mo A t sm (mnS sp σk) := by
          rw [mnS_eq, ← hσm]
          exact w5
        have hgo : goN sp (k + 1) σ = mnS sp σk := by rw [hσ]; rfl
        obtain ⟨v1, v2⟩ := IV_go (sp := sp) hv hM (k + 1) (by omega)
        rw [hgo] at v1 v2
        exact ih _ _ h9 (x + 1) _ (mnS sp σk) b2 d2 (nx hx) hgo.symm hwn v1 v2 (by rw [mnS_o]; exact u_step hu9) (by omega) (by omega)
      · intro j2 t9 hjt ih2 y6 h9 ls w5 hit
        clear hmo hlp hls hlf hP hS hF hdd
        obtain ⟨hmo, ⟨hlp, hls, hlf⟩, ⟨hP, hS, hF⟩, -, hdd⟩ := id w5
        have hlt : t9 < σm.nf := by omega
        have hF9 : h9 (A.fa t9) = some (tg, oRow 6 (σm.F t9)) := by
          have := (hF t9 hlt).2
          rw [show (σm.wF σm.nf (wK (σk.mi + 1 - (σk.mi + 1) / 30 * 30 = 0) σm.F t9)).F t9 = σm.F t9 from wK_at _ _] at this
          exact this
        have hne : A.fa t9 ≠ q50 := kk_ne hF9 hit (show (100 : Nat) ≠ 0 by decide)
        have w6 := w5.itr (c := (tg, oItr (nI (t9 + 1)) (nI t9) A.mdf A.Lf)) hit rfl
        have hrow : hu h9 q50 (tg, oItr (nI (t9 + 1)) (nI t9) A.mdf A.Lf) (A.fa t9) = some (tg, oRow 6 (σm.F t9)) := (hu_n hne).trans hF9
        refine aw_ald5 X dX7_go_55 rfl ?_
        refine aw_callF X dX7_go_57 rfl (k_Jx35411_hasNext_aae02 X.1 hit hlf.lr rfl (Nat.le_of_lt hlt)) cfJx35411_hasNext_aae02 ml_X7_76 rfl hit rfl rfl (Nat.le_of_ble_eq_true rfl) ⟨Nat.le_of_ble_eq_true rfl, Nat.le_of_ble_eq_true rfl⟩ (aw_rs ?_)
        refine aw_if_eq (n2 := 103) X dX7_go_62 rfl rfl (fun c62 => absurd c62 (fun q => bI_n q hlt)) (fun c62 => ?_)
        refine aw_ald5 X dX7_go_65 rfl ?_
        refine aw_callF X dX7_go_67 rfl (k_Jx35411_next_0502b X.1 htg hit hlf.lr rfl hlt (hF t9 hlt).1) cfJx35411_next_0502b ml_X7_82 rfl hit rfl rfl (Nat.le_of_ble_eq_true rfl) ⟨Nat.le_of_ble_eq_true rfl, Nat.le_of_ble_eq_true rfl⟩ (aw_rs ?_)
        refine aw_castA X dX7_go_72 rfl (kd := 0) (by decide) cc_X7_52 hrow ?_
        refine aw_ast6 X dX7_go_75 rfl (by decide) rfl ?_
        refine aw_ald0 X dX7_go_77 rfl ?_
        refine aw_get X fd_X7_86 dX7_go_78 rfl w6.1 rfl ?_
        refine aw_bipush X (30) dX7_go_81 (by decide) rfl ?_
        refine aw_irem X dX7_go_83 (by decide) rfl ?_
        refine aw_if_ne (n2 := 100) X dX7_go_84 rfl rfl (fun c84 => ?_) (fun c84 => ?_)
        · refine aw_goto (n := 55) X dX7_go_100 rfl ?_
          exact ih2 _ _ _ (by rw [wK_f (fun q => c84 (by rw [show (σm.wF σm.nf (wK (σk.mi + 1 - (σk.mi + 1) / 30 * 30 = 0) σm.F t9)).mi = σk.mi + 1 from hmi]; exact q))]; exact w6) hu_s
        · refine aw_ald6 X dX7_go_87 rfl ?_
          refine aw_iconst X (3) dX7_go_89 (by decide) rfl ?_
          refine aw_iald X (3) dX7_go_90 rfl hrow rfl (by decide) (by decide) ?_
          refine aw_if_eq (n2 := 100) X dX7_go_91 rfl rfl (fun c91 => ?_) (fun c91 => ?_)
          · refine aw_goto (n := 55) X dX7_go_100 rfl ?_
            exact ih2 _ _ _ (by rw [wK_b c91]; exact w6) hu_s
          · refine aw_ald6 X dX7_go_94 rfl ?_
            refine aw_iconst X (1) dX7_go_96 (by decide) rfl ?_
            refine aw_callS X dX7_go_97 rfl (k_X7_wear X.1 htg hrow 1) cmX7_wear ml_X7_144 rfl rfl (Nat.le_of_ble_eq_true rfl) ⟨Nat.le_of_ble_eq_true rfl, Nat.le_of_ble_eq_true rfl⟩ (aw_rv ?_)
            refine aw_goto (n := 55) X dX7_go_100 rfl ?_
            have hcc : (σk.mi + 1 - (σk.mi + 1) / 30 * 30 = 0) := by
              have c9 := c84
              rw [show (σm.wF σm.nf (wK (σk.mi + 1 - (σk.mi + 1) / 30 * 30 = 0) σm.F t9)).mi = σk.mi + 1 from hmi] at c9
              exact c9
            exact ih2 _ _ _ (by rw [← wK_t hcc c91]; exact w6.fig hlt (wearR (σm.F t9) 1)) ((hu_n hne.symm).trans hu_s)
