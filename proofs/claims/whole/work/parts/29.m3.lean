/-! THE MODEL'S PLOT, SCENE BY SCENE -/
theorem LR.ext {h h2 : AH} {tg L n ed cap : Nat} {g : Nat → Option Nat} {md : Int32} (w : LR h tg L n g ed cap md) (e : ∀ a c, h a = some c → h2 a = some c) : LR h2 tg L n g ed cap md := by
  obtain ⟨h1, h3, h4, t, h5⟩ := w
  exact ⟨e _ _ h1, h3, h4, t, e _ _ h5⟩
theorem RwW.ext {h h2 : AH} {tg n : Nat} {g : Nat → Option Nat} {fa : Nat → Nat} {F : Nat → Nat → Int32} (w : RwW h tg n g fa F) (e : ∀ a c, h a = some c → h2 a = some c) : RwW h2 tg n g fa F := fun k hk => ⟨(w k hk).1, e _ _ (w k hk).2⟩
/-- who knows behind the first k scenes, as the model has it -/
def mK (F : Nat → Nat → Int32) (kf : Int32) : Nat → Int32
  | 0 => kf
  | k + 1 => if ¬ F k 5 = -1 ∧ (mK F kf k >>> (F k 5 &&& 31)) &&& 1 = 1 then mK F kf k ||| F k 2 else mK F kf k
def tRow (P : Nat → Nat → Int32) (np : Nat) (F : Nat → Nat → Int32) (kf : Int32) (k : Nat) : Nat → Int32 := upd (upd (upd (fun _ => 0) 0 (rB F k)) 1 (mB P np F k (rB F k) (mK F kf k))) 2 (mK F kf (k + 1))
/-- the told table: q of n rows r, and all that was -/
def TbW (h h2 : AH) (tg q n : Nat) (r : Nat → Nat) (P : Nat → Nat → Int32) (np : Nat) (F : Nat → Nat → Int32) (kf : Int32) : Prop := (∀ a c, h a = some c → h2 a = some c) ∧ h2 q = some (tg, oTab n r) ∧ ∀ i, i < n → h2 (r i) = some (tg, oRow 3 (tRow P np F kf i))
theorem kf_step {u x : Int32} (h : x = 0 ∨ x = 1) (k : Nat) : u ||| (x <<< (nI k &&& 31)) = if x = 0 then u else u ||| ((1 : Int32) <<< (nI k &&& 31)) := by
  rcases h with h | h
  · rw [h, if_pos rfl]
    simp
  · rw [h, if_neg (by decide)]

set_option maxHeartbeats 4000000 in
set_option maxRecDepth 100000 in
theorem k_X7_plot {l : Launch} {s0 : State} {a0 : Array Value} {G : GG} (X : CX l s0 a0 G) {h : AH} {tg mo : Nat} {A : KA} {t : Int32} {sm : Int64} {σ : NS} (htg : tg ≠ 0) (w : MoW G h tg mo A t sm σ) {tL tF L n ed cap : Nat} {g : Nat → Option Nat} {fa : Nat → Nat} {F : Nat → Nat → Int32} {md : Int32} (hw : LR h tL L n g ed cap md) (hR : RwW h tF n g fa F) (hn10 : n ≤ 10) (hk5 : ∀ k, k < σ.np → σ.P k 5 = 0 ∨ σ.P k 5 = 1) (hdi : ∀ k, k < n → F k 4 = -1 ∨ ∃ i, i < σ.np ∧ F k 4 = nI i)  : Con l s0 G yX7_plot cX7_plot 7 (some (.array (.array .int))) 5 11 40 tg [.ref mo, .ref L] h (fun r9 h2 => ∃ q r, some (.ref q) = r9 ∧ TbW h h2 tg q n r σ.P σ.np F (kfS σ.P σ.np)) := by
  refine Con.of X (by decide +kernel) [some (.ref mo), some (.ref L), none, none, none, none, none] rfl (Nat.le_of_ble_eq_true rfl) (fun p e s m below meth c X hnm hret => ?_)
  have w0 := w
  obtain ⟨hmo, ⟨hlp, hls, hlf⟩, ⟨hP, hS, hF⟩, ⟨hn8, hn10, hn12⟩, hdd⟩ := id w
  have hcap := hw.2.1
  have hcap2 := hw.2.2.1
  refine aw_ald1 X dX7_plot_0 rfl ?_
  refine aw_callV X dX7_plot_1 rfl (k_rsize X.1 hw) cmJx4a65c_size_8abf5 ml_X7_38 rfl hw.1 rfl rfl (Nat.le_of_ble_eq_true rfl) ⟨Nat.le_of_ble_eq_true rfl, Nat.le_of_ble_eq_true rfl⟩ (aw_rs ?_)
  refine aw_iconst X (3) dX7_plot_4 (by decide) rfl ?_
  refine AW.mono (bc2 := 0 + (1 + n)) (bs2 := 0 + (n + n * 3)) (by omega) (by omega) ?_
  refine aw_mna X dX7_plot_5 rfl mna_ok.1 mna_ok.2.1 mna_ok.2.2 rfl rfl (by omega) (by decide) (fun q5 r5 h5 hq5 he5 ht5 hr5 hi5 hf5 => ?_)
  refine aw_ast2 X dX7_plot_9 rfl (by decide) rfl ?_
  refine aw_iconst X (0) dX7_plot_10 (by decide) rfl ?_
  refine aw_ist3 X dX7_plot_11 rfl (by decide) rfl ?_
  refine aw_iconst X (0) dX7_plot_12 (by decide) rfl ?_
  refine aw_ist4 X dX7_plot_13 rfl (by decide) rfl ?_
  refine aw_iconst X (0) dX7_plot_15 (by decide) rfl ?_
  refine aw_ist5 X dX7_plot_16 rfl (by decide) rfl ?_
  refine aw_dn (n := σ.np) (A := fun j k => ∀ (x : Int32), ∀ (u : Int32), ∀ (h9 : AH), (∀ a c, h a = some c → h9 a = some c) → (h9 q5 = some (tg, oTab n r5)) → (∀ i, i < n → h9 (r5 i) = some (tg, oRow 3 (fun _ => 0))) → (x = nI k) → (u = kfS σ.P k) → AW p l e _ s m _ below meth c _ s0 G 7 tg _ h9 _ _ 18 [some (.ref mo), some (.ref L), some (.ref q5), some (.int 0), some (.int u), some (.int x), none] []) ?_ ?_ σ.np 0 rfl 0 0 h5 he5 ht5 hr5 nI_0.symm rfl
  · intro x u h9 hx9 ht9 hr9 hx hI
    subst hI
    have w9 := w0.ext hx9
    obtain ⟨hmo, ⟨hlp, hls, hlf⟩, ⟨hP, hS, hF⟩, -⟩ := id w9
    refine aw_ild5 X dX7_plot_18 rfl ?_
    refine aw_ald0 X dX7_plot_20 rfl ?_
    refine aw_get X fd_X7_10 dX7_plot_21 rfl hmo rfl ?_
    refine aw_callV X dX7_plot_24 rfl (k_size X.1 hlp) cmJx4a65c_size_8abf5 ml_X7_38 rfl hlp.1 rfl rfl (Nat.le_of_ble_eq_true rfl) ⟨Nat.le_of_ble_eq_true rfl, Nat.le_of_ble_eq_true rfl⟩ (aw_rs ?_)
    refine aw_icmp_ge (n2 := 58) X dX7_plot_27 rfl rfl (fun c27 => ?_) (fun c27 => absurd (ge_t hx (Nat.le_refl _) (by omega)) c27)
    refine aw_iconst X (0) dX7_plot_58 (by decide) rfl ?_
    refine aw_ist5 X dX7_plot_59 rfl (by decide) rfl ?_
    refine aw_dn (n := n) (A := fun j k => ∀ (y6 : Option Value), ∀ (h9 : AH), ∀ (x : Int32), (∀ a c, h a = some c → h9 a = some c) → (h9 q5 = some (tg, oTab n r5)) → (∀ i, i < n → h9 (r5 i) = some (tg, oRow 3 (if i < k then tRow σ.P σ.np F (kfS σ.P σ.np) i else (fun _ => 0)))) → (x = nI k) → AW p l e _ s m _ below meth c _ s0 G 7 tg _ h9 _ _ 61 [some (.ref mo), some (.ref L), some (.ref q5), some (.int (rB F k)), some (.int (mK F (kfS σ.P σ.np) k)), some (.int x), y6] []) ?_ ?_ n 0 rfl none _ 0 hx9 ht9 hr9 nI_0.symm
    · intro y6 h9 x hx9 ht9 hr9 hx
      have hw9 := hw.ext hx9
      refine aw_ild5 X dX7_plot_61 rfl ?_
      refine aw_ald1 X dX7_plot_63 rfl ?_
      refine aw_callV X dX7_plot_64 rfl (k_rsize X.1 hw9) cmJx4a65c_size_8abf5 ml_X7_38 rfl hw9.1 rfl rfl (Nat.le_of_ble_eq_true rfl) ⟨Nat.le_of_ble_eq_true rfl, Nat.le_of_ble_eq_true rfl⟩ (aw_rs ?_)
      refine aw_icmp_ge (n2 := 155) X dX7_plot_67 rfl rfl (fun c67 => ?_) (fun c67 => absurd (ge_t hx (Nat.le_refl _) (by omega)) c67)
      refine aw_ald2 X dX7_plot_155 rfl ?_
      exact aw_aret X hret (Or.inr ⟨_, rfl⟩) dX7_plot_156 (⟨q5, r5, rfl, hx9, ht9, fun i hi => by have := hr9 i hi; rw [if_pos hi] at this; exact this⟩)
    · intro j k hjk ih y6 h9 x hx9 ht9 hr9 hx
      have hlt : k < n := by omega
      have hne : q5 ≠ r5 k := fun z => by have := hr9 k hlt; rw [← z, ht9] at this; cases this
      have hrk : h9 (r5 k) = some (tg, oRow 3 (fun _ => 0)) := by have := hr9 k hlt; rw [if_neg (Nat.lt_irrefl _)] at this; exact this
      have hw9 := hw.ext hx9
      have hR9 := hR.ext hx9
      have hxn : ∀ c9 a c, h a = some c → hu h9 (r5 k) c9 a = some c := fun c9 a c e => (hu_n (fun z => by rw [z, hf5 k hlt] at e; cases e)).trans (hx9 a c e)
      refine aw_ild5 X dX7_plot_61 rfl ?_
      refine aw_ald1 X dX7_plot_63 rfl ?_
      refine aw_callV X dX7_plot_64 rfl (k_rsize X.1 hw9) cmJx4a65c_size_8abf5 ml_X7_38 rfl hw9.1 rfl rfl (Nat.le_of_ble_eq_true rfl) ⟨Nat.le_of_ble_eq_true rfl, Nat.le_of_ble_eq_true rfl⟩ (aw_rs ?_)
      refine aw_icmp_ge (n2 := 155) X dX7_plot_67 rfl rfl (fun c67 => absurd c67 (ge_f hx (by omega) (by omega))) (fun c67 => ?_)
      refine aw_ald1 X dX7_plot_70 rfl ?_
      refine aw_ild5 X dX7_plot_71 rfl ?_
      refine aw_callV X dX7_plot_73 rfl (k_rget X.1 hw9 hx hlt (hR9 k hlt).1) cmJx4a65c_get_915e3 ml_X7_48 rfl hw9.1 rfl rfl (Nat.le_of_ble_eq_true rfl) ⟨Nat.le_of_ble_eq_true rfl, Nat.le_of_ble_eq_true rfl⟩ (aw_rs ?_)
      refine aw_castA X dX7_plot_76 rfl (kd := 0) (by decide) cc_X7_52 (hR9 k hlt).2 ?_
      refine aw_ast6 X dX7_plot_79 rfl (by decide) rfl ?_
      refine aw_ald2 X dX7_plot_81 rfl ?_
      refine aw_ild5 X dX7_plot_82 rfl ?_
      refine aw_aald2 X k dX7_plot_84 rfl ht9 hx hlt (by omega) (if_pos hlt) ?_
      refine aw_iconst X (0) dX7_plot_85 (by decide) rfl ?_
      refine aw_ild3 X dX7_plot_86 rfl ?_
      refine aw_iast X (0) dX7_plot_87 rfl htg hrk rfl (by decide) (by decide) ?_
      have hwA := hw.ext (hxn (tg, oRow 3 (upd (fun _ => 0) 0 (rB F k))))
      have hRA := hR.ext (hxn (tg, oRow 3 (upd (fun _ => 0) 0 (rB F k))))
      have wA := w0.ext (hxn (tg, oRow 3 (upd (fun _ => 0) 0 (rB F k))))
      refine aw_ald2 X dX7_plot_88 rfl ?_
      refine aw_ild5 X dX7_plot_89 rfl ?_
      refine aw_aald2 X k dX7_plot_91 rfl ((hu_n hne).trans ht9) hx hlt (by omega) (if_pos hlt) ?_
      refine aw_iconst X (1) dX7_plot_92 (by decide) rfl ?_
      refine aw_ald0 X dX7_plot_93 rfl ?_
      refine aw_ald1 X dX7_plot_94 rfl ?_
      refine aw_ild5 X dX7_plot_95 rfl ?_
      refine aw_ild3 X dX7_plot_97 rfl ?_
      refine aw_ild4 X dX7_plot_98 rfl ?_
      refine aw_callV X dX7_plot_100 rfl (k_X7_breach X.1 wA hwA hRA hx hlt (rB F k) (mK F (kfS σ.P σ.np) k) (hdi k hlt)) cmX7_breach ml_X7_54 rfl wA.1 rfl rfl (Nat.le_of_ble_eq_true rfl) ⟨Nat.le_of_ble_eq_true rfl, Nat.le_of_ble_eq_true rfl⟩ (aw_rs ?_)
      refine aw_iast X (1) dX7_plot_103 rfl htg hu_s rfl (by decide) (by decide) ?_
      rw [hu_hu]
      have hRB := hR.ext (hxn (tg, oRow 3 (upd (upd (fun _ => 0) 0 (rB F k)) 1 (mB σ.P σ.np F k (rB F k) (mK F (kfS σ.P σ.np) k)))))
      refine aw_ild3 X dX7_plot_104 rfl ?_
      refine aw_ald6 X dX7_plot_105 rfl ?_
      refine aw_iconst X (3) dX7_plot_107 (by decide) rfl ?_
      refine aw_iald X (3) dX7_plot_108 rfl (hRB k hlt).2 rfl (by decide) (by decide) ?_
      refine aw_iadd X dX7_plot_109 rfl ?_
      refine aw_ist3 X dX7_plot_110 rfl (by decide) rfl ?_
      refine aw_ald6 X dX7_plot_111 rfl ?_
      refine aw_iconst X (5) dX7_plot_113 (by decide) rfl ?_
      refine aw_iald X (5) dX7_plot_114 rfl (hRB k hlt).2 rfl (by decide) (by decide) ?_
      refine aw_iconst X (-1) dX7_plot_115 (by decide) rfl ?_
      refine aw_icmp_eq (n2 := 141) X dX7_plot_116 rfl rfl (fun c116 => ?_) (fun c116 => ?_)
      · refine aw_ald2 X dX7_plot_141 rfl ?_
        refine aw_ild5 X dX7_plot_142 rfl ?_
        refine aw_aald2 X k dX7_plot_144 rfl ((hu_n hne).trans ht9) hx hlt (by omega) (if_pos hlt) ?_
        refine aw_iconst X (2) dX7_plot_145 (by decide) rfl ?_
        refine aw_ild4 X dX7_plot_146 rfl ?_
        refine aw_iast X (2) dX7_plot_148 rfl htg hu_s rfl (by decide) (by decide) ?_
        refine aw_iinc5 X (1) dX7_plot_149 (by decide) rfl (by decide) rfl ?_
        refine aw_goto (n := 61) X dX7_plot_152 rfl ?_
        have hK : mK F (kfS σ.P σ.np) (k + 1) = mK F (kfS σ.P σ.np) k := if_neg (fun q => q.1 c116)
        have hq9 := fun y9 => ih y9 (hu h9 (r5 k) (tg, oRow 3 (tRow σ.P σ.np F (kfS σ.P σ.np) k))) (x + 1) (hxn _) ((hu_n hne).trans ht9) (fun i hi => by
          by_cases z : i = k
          · rw [z, hu_s, if_pos (Nat.lt_succ_self _)]
          · rw [hu_n (fun e => z (hi5 i k hi hlt e)), hr9 i hi]
            by_cases z2 : i < k
            · rw [if_pos z2, if_pos (Nat.lt_succ_of_lt z2)]
            · rw [if_neg z2, if_neg (by omega)]) (nx hx)
        have hT : tRow σ.P σ.np F (kfS σ.P σ.np) k = upd (upd (upd (fun _ => 0) 0 (rB F k)) 1 (mB σ.P σ.np F k (rB F k) (mK F (kfS σ.P σ.np) k))) 2 (mK F (kfS σ.P σ.np) k) := by unfold tRow; rw [hK]
        rw [hT, hK] at hq9
        simp only [hu_hu]
        exact hq9 _
      · refine aw_ild4 X dX7_plot_119 rfl ?_
        refine aw_ald6 X dX7_plot_121 rfl ?_
        refine aw_iconst X (5) dX7_plot_123 (by decide) rfl ?_
        refine aw_iald X (5) dX7_plot_124 rfl (hRB k hlt).2 rfl (by decide) (by decide) ?_
        refine aw_ishr X dX7_plot_125 rfl ?_
        refine aw_iconst X (1) dX7_plot_126 (by decide) rfl ?_
        refine aw_iand X dX7_plot_127 rfl ?_
        refine aw_iconst X (1) dX7_plot_128 (by decide) rfl ?_
        refine aw_icmp_ne (n2 := 141) X dX7_plot_129 rfl rfl (fun c129 => ?_) (fun c129 => ?_)
        · refine aw_ald2 X dX7_plot_141 rfl ?_
          refine aw_ild5 X dX7_plot_142 rfl ?_
          refine aw_aald2 X k dX7_plot_144 rfl ((hu_n hne).trans ht9) hx hlt (by omega) (if_pos hlt) ?_
          refine aw_iconst X (2) dX7_plot_145 (by decide) rfl ?_
          refine aw_ild4 X dX7_plot_146 rfl ?_
          refine aw_iast X (2) dX7_plot_148 rfl htg hu_s rfl (by decide) (by decide) ?_
          refine aw_iinc5 X (1) dX7_plot_149 (by decide) rfl (by decide) rfl ?_
          refine aw_goto (n := 61) X dX7_plot_152 rfl ?_
          have hK : mK F (kfS σ.P σ.np) (k + 1) = mK F (kfS σ.P σ.np) k := if_neg (fun q => c129 q.2)
          have hq9 := fun y9 => ih y9 (hu h9 (r5 k) (tg, oRow 3 (tRow σ.P σ.np F (kfS σ.P σ.np) k))) (x + 1) (hxn _) ((hu_n hne).trans ht9) (fun i hi => by
            by_cases z : i = k
            · rw [z, hu_s, if_pos (Nat.lt_succ_self _)]
            · rw [hu_n (fun e => z (hi5 i k hi hlt e)), hr9 i hi]
              by_cases z2 : i < k
              · rw [if_pos z2, if_pos (Nat.lt_succ_of_lt z2)]
              · rw [if_neg z2, if_neg (by omega)]) (nx hx)
          have hT : tRow σ.P σ.np F (kfS σ.P σ.np) k = upd (upd (upd (fun _ => 0) 0 (rB F k)) 1 (mB σ.P σ.np F k (rB F k) (mK F (kfS σ.P σ.np) k))) 2 (mK F (kfS σ.P σ.np) k) := by unfold tRow; rw [hK]
          rw [hT, hK] at hq9
          simp only [hu_hu]
          exact hq9 _
        · refine aw_ild4 X dX7_plot_132 rfl ?_
          refine aw_ald6 X dX7_plot_134 rfl ?_
          refine aw_iconst X (2) dX7_plot_136 (by decide) rfl ?_
          refine aw_iald X (2) dX7_plot_137 rfl (hRB k hlt).2 rfl (by decide) (by decide) ?_
          refine aw_ior X dX7_plot_138 rfl ?_
          refine aw_ist4 X dX7_plot_139 rfl (by decide) rfl ?_
          refine aw_ald2 X dX7_plot_141 rfl ?_
          refine aw_ild5 X dX7_plot_142 rfl ?_
          refine aw_aald2 X k dX7_plot_144 rfl ((hu_n hne).trans ht9) hx hlt (by omega) (if_pos hlt) ?_
          refine aw_iconst X (2) dX7_plot_145 (by decide) rfl ?_
          refine aw_ild4 X dX7_plot_146 rfl ?_
          refine aw_iast X (2) dX7_plot_148 rfl htg hu_s rfl (by decide) (by decide) ?_
          refine aw_iinc5 X (1) dX7_plot_149 (by decide) rfl (by decide) rfl ?_
          refine aw_goto (n := 61) X dX7_plot_152 rfl ?_
          have hK : mK F (kfS σ.P σ.np) (k + 1) = mK F (kfS σ.P σ.np) k ||| F k 2 := if_pos ⟨c116, c129⟩
          have hq9 := fun y9 => ih y9 (hu h9 (r5 k) (tg, oRow 3 (tRow σ.P σ.np F (kfS σ.P σ.np) k))) (x + 1) (hxn _) ((hu_n hne).trans ht9) (fun i hi => by
            by_cases z : i = k
            · rw [z, hu_s, if_pos (Nat.lt_succ_self _)]
            · rw [hu_n (fun e => z (hi5 i k hi hlt e)), hr9 i hi]
              by_cases z2 : i < k
              · rw [if_pos z2, if_pos (Nat.lt_succ_of_lt z2)]
              · rw [if_neg z2, if_neg (by omega)]) (nx hx)
          have hT : tRow σ.P σ.np F (kfS σ.P σ.np) k = upd (upd (upd (fun _ => 0) 0 (rB F k)) 1 (mB σ.P σ.np F k (rB F k) (mK F (kfS σ.P σ.np) k))) 2 (mK F (kfS σ.P σ.np) k ||| F k 2) := by unfold tRow; rw [hK]
          rw [hT, hK] at hq9
          simp only [hu_hu]
          exact hq9 _
  · intro j k hjk ih x u h9 hx9 ht9 hr9 hx hI
    have w9 := w0.ext hx9
    obtain ⟨hmo, ⟨hlp, hls, hlf⟩, ⟨hP, hS, hF⟩, -⟩ := id w9
    refine aw_ild5 X dX7_plot_18 rfl ?_
    refine aw_ald0 X dX7_plot_20 rfl ?_
    refine aw_get X fd_X7_10 dX7_plot_21 rfl hmo rfl ?_
    refine aw_callV X dX7_plot_24 rfl (k_size X.1 hlp) cmJx4a65c_size_8abf5 ml_X7_38 rfl hlp.1 rfl rfl (Nat.le_of_ble_eq_true rfl) ⟨Nat.le_of_ble_eq_true rfl, Nat.le_of_ble_eq_true rfl⟩ (aw_rs ?_)
    refine aw_icmp_ge (n2 := 58) X dX7_plot_27 rfl rfl (fun c27 => absurd c27 (ge_f hx (by omega) (by omega))) (fun c27 => ?_)
    refine aw_ild4 X dX7_plot_30 rfl ?_
    refine aw_ald0 X dX7_plot_32 rfl ?_
    refine aw_get X fd_X7_10 dX7_plot_33 rfl hmo rfl ?_
    refine aw_ild5 X dX7_plot_36 rfl ?_
    refine aw_callV X dX7_plot_38 rfl (k_lget X.1 hlp hx (by omega) (hP k (by omega)).1) cmJx4a65c_get_915e3 ml_X7_48 rfl hlp.1 rfl rfl (Nat.le_of_ble_eq_true rfl) ⟨Nat.le_of_ble_eq_true rfl, Nat.le_of_ble_eq_true rfl⟩ (aw_rs ?_)
    refine aw_castA X dX7_plot_41 rfl (kd := 0) (by decide) cc_X7_52 (hP k (by omega)).2 ?_
    refine aw_iconst X (5) dX7_plot_44 (by decide) rfl ?_
    refine aw_iald X (5) dX7_plot_45 rfl (hP k (by omega)).2 rfl (by decide) (by decide) ?_
    refine aw_ild5 X dX7_plot_46 rfl ?_
    refine aw_ishl X dX7_plot_48 rfl ?_
    refine aw_ior X dX7_plot_49 rfl ?_
    refine aw_ist4 X dX7_plot_50 rfl (by decide) rfl ?_
    refine aw_iinc5 X (1) dX7_plot_52 (by decide) rfl (by decide) rfl ?_
    refine aw_goto (n := 18) X dX7_plot_55 rfl ?_
    exact ih (x + 1) _ h9 hx9 ht9 hr9 (nx hx) (by rw [hI, hx, kf_step (hk5 k (by omega)) k]; rfl)
