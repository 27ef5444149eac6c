/-! THE MODEL'S CALLS: what is told -/
theorem LI.oth {G : GG} {h h2 : AH} {tg L n ed cap L9 n9 ed9 cap9 : Nat} {g g9 : Nat → Option Nat} {md md9 : Int32} (x : LI G h tg L n g ed cap md) (z : LI G h tg L9 n9 g9 ed9 cap9 md9) (n1 : L9 ≠ L) (n2 : cap9 ≠ 0 → cap ≠ 0 → ed9 ≠ ed) (hfr : ∀ a c, h a = some c → a ≠ L9 → (a ≠ ed9 ∨ cap9 = 0) → h2 a = some c) : LI G h2 tg L n g ed cap md := by
  obtain ⟨t1, e1⟩ := z.arr
  obtain ⟨t9, e9⟩ := x.arr
  refine x.kept ((hfr _ _ x.1 n1.symm (Or.inl (kk_ne x.1 e1 (show (1 : Nat) ≠ 103 by decide)))).trans x.1.symm) ?_
  rw [e9]
  refine hfr _ _ e9 (kk_ne e9 z.1 (show (103 : Nat) ≠ 1 by decide)) ?_
  by_cases hc : cap9 = 0
  · exact Or.inr hc
  · exact Or.inl (x.ne z hc (fun z9 => (n2 hc z9).symm))
theorem RwW.add {h h2 : AH} {tg n q : Nat} {g g2 : Nat → Option Nat} {fa : Nat → Nat} {F : Nat → Nat → Int32} {r : Nat → Int32} (b : RwW h tg n g fa F) (hg : ∀ j, j < n → g2 j = g j) (hgn : g2 n = some q) (hk : ∀ a c, h a = some c → kd c.2 = 100 → h2 a = some c) (hq2 : h2 q = some (tg, oRow 6 r)) : RwW h2 tg (n + 1) g2 (fun i => if i = n then q else fa i) (upF F n r) := fun i hi => by
  by_cases z : i = n
  · subst z
    exact ⟨by rw [hgn]; exact congrArg some (if_pos rfl).symm, by
      show h2 (if i = i then q else fa i) = some (tg, oRow 6 (upF F i r i))
      rw [if_pos rfl, show upF F i r i = r from if_pos rfl]; exact hq2⟩
  · exact ⟨by rw [hg i (by omega), (b i (by omega)).1]; exact congrArg some (if_neg z).symm, by
      show h2 (if i = n then q else fa i) = some (tg, oRow 6 (upF F n r i))
      rw [if_neg z, show upF F n r i = F i from if_neg z]; exact hk _ _ (b i (by omega)).2 rfl⟩
theorem inj_add {n q : Nat} {fa : Nat → Nat} (hi : ∀ j k, j < n → k < n → fa j = fa k → j = k) (nq : ∀ i, i < n → fa i ≠ q) : ∀ j k, j < n + 1 → k < n + 1 → (if j = n then q else fa j) = (if k = n then q else fa k) → j = k := by
  intro a b ha hb e
  by_cases za : a = n
  · by_cases zb : b = n
    · rw [za, zb]
    · rw [if_pos za, if_neg zb] at e
      exact absurd e.symm (nq b (by omega))
  · by_cases zb : b = n
    · rw [if_neg za, if_pos zb] at e
      exact absurd e (nq a (by omega))
    · rw [if_neg za, if_neg zb] at e
      exact hi a b (by omega) (by omega) e
theorem ne_addR {m n q : Nat} {pa fa : Nat → Nat} (hi : ∀ j k, j < m → k < n → pa j ≠ fa k) (nq : ∀ i, i < m → pa i ≠ q) : ∀ j k, j < m → k < n + 1 → pa j ≠ (if k = n then q else fa k) := by
  intro a b ha hb
  by_cases zb : b = n
  · rw [if_pos zb]; exact nq a ha
  · rw [if_neg zb]; exact hi a b ha (by omega)
theorem ne_addL {m n q : Nat} {pa fa : Nat → Nat} (hi : ∀ j k, j < n → k < m → fa j ≠ pa k) (nq : ∀ i, i < m → pa i ≠ q) : ∀ j k, j < n + 1 → k < m → (if j = n then q else fa j) ≠ pa k := by
  intro a b ha hb
  by_cases zb : a = n
  · rw [if_pos zb]; exact (nq b hb).symm
  · rw [if_neg zb]; exact hi a b (by omega) hb

theorem MoW.addP {G : GG} {h h2 : AH} {tg mo : Nat} {A : KA} {t : Int32} {sm : Int64} {σ : NS} (w : MoW G h tg mo A t sm σ) {q : Nat} {r : Nat → Int32} (hq : h q = some (tg, oRow 6 r)) (nq : (∀ i, i < σ.np → A.pa i ≠ q) ∧ (∀ i, i < σ.ns → A.sa i ≠ q) ∧ ∀ i, i < σ.nf → A.fa i ≠ q) (hn : σ.np < 8) {ed2 cap2 : Nat} {g2 : Nat → Option Nat} {md2 : Int32} (hl : LI G h2 tg A.Lp (σ.np + 1) g2 ed2 cap2 md2) (hc2 : cap2 ≠ 0) (hg : ∀ j, j < σ.np → g2 j = A.gp j) (hgn : g2 σ.np = some q) (hed : (ed2 = A.edp ∧ A.capp ≠ 0) ∨ h ed2 = none) (hfr : ∀ a c, h a = some c → a ≠ A.Lp → (a ≠ A.edp ∨ A.capp = 0) → h2 a = some c) : MoW G h2 tg mo (A.wP A.Lp ed2 cap2 md2 g2 (fun i => if i = σ.np then q else A.pa i)) t sm (σ.wP (σ.np + 1) (upF σ.P σ.np r)) := by
  obtain ⟨h1, ⟨a1, a2, a3⟩, ⟨b1, b2, b3⟩, ⟨c1, c2, c3⟩, ⟨d1, d2, d3, d4, d5⟩, ⟨e1, e2, e3⟩, ⟨f1, f2, f3⟩⟩ := w
  obtain ⟨t1, k9⟩ := a1.arr
  have k1 : ∀ a c, h a = some c → kd c.2 ≠ 1 → kd c.2 ≠ 103 → h2 a = some c := fun a c e m1 m2 => hfr a c e (kk_ne e a1.1 m1) (Or.inl (kk_ne e k9 m2))
  have k2 : ∀ a c, h a = some c → kd c.2 = 100 → h2 a = some c := fun a c e m => k1 a c e (by omega) (by omega)
  have hq2 := k2 _ _ hq rfl
  have hee : ∀ {L ed cap n : Nat} {g : Nat → Option Nat} {md : Int32}, LI G h tg L n g ed cap md → (A.capp ≠ 0 → cap ≠ 0 → A.edp ≠ ed) → cap ≠ 0 → ed2 ≠ ed := fun {L ed cap n g md} x n2 hc => by
    rcases hed with ⟨e, hc3⟩ | e
    · rw [e]; exact n2 hc3 hc
    · exact fun z => by rw [z, (x.cap0 hc).2] at e; cases e
  exact ⟨k1 _ _ h1 (show (9 : Nat) ≠ 1 by decide) (show (9 : Nat) ≠ 103 by decide), ⟨hl, a2.oth a1 e1 f1 hfr, a3.oth a1 e2 f2 hfr⟩, ⟨b1.add hg hgn k2 hq2, b2.keptK k2, b3.keptK k2⟩, ⟨hn, c2, c3⟩, ⟨d1, d2, ne_addL d3 nq.2.1, ne_addL d4 nq.2.2, d5⟩, ⟨e1, e2, e3⟩, ⟨fun _ x => hee a2 (fun z9 z8 => f1 z9 z8) x, fun _ x => hee a3 (fun z9 z8 => f2 z9 z8) x, f3⟩⟩

theorem MoW.addS {G : GG} {h h2 : AH} {tg mo : Nat} {A : KA} {t : Int32} {sm : Int64} {σ : NS} (w : MoW G h tg mo A t sm σ) {q : Nat} {r : Nat → Int32} (hq : h q = some (tg, oRow 6 r)) (nq : (∀ i, i < σ.np → A.pa i ≠ q) ∧ (∀ i, i < σ.ns → A.sa i ≠ q) ∧ ∀ i, i < σ.nf → A.fa i ≠ q) (hn : σ.ns < 10) {ed2 cap2 : Nat} {g2 : Nat → Option Nat} {md2 : Int32} (hl : LI G h2 tg A.Ls (σ.ns + 1) g2 ed2 cap2 md2) (hc2 : cap2 ≠ 0) (hg : ∀ j, j < σ.ns → g2 j = A.gs j) (hgn : g2 σ.ns = some q) (hed : (ed2 = A.eds ∧ A.caps ≠ 0) ∨ h ed2 = none) (hfr : ∀ a c, h a = some c → a ≠ A.Ls → (a ≠ A.eds ∨ A.caps = 0) → h2 a = some c) : MoW G h2 tg mo (A.wS A.Ls ed2 cap2 md2 g2 (fun i => if i = σ.ns then q else A.sa i)) t sm (σ.wS (σ.ns + 1) (upF σ.S σ.ns r)) := by
  obtain ⟨h1, ⟨a1, a2, a3⟩, ⟨b1, b2, b3⟩, ⟨c1, c2, c3⟩, ⟨d1, d2, d3, d4, d5⟩, ⟨e1, e2, e3⟩, ⟨f1, f2, f3⟩⟩ := w
  obtain ⟨t1, k9⟩ := a2.arr
  have k1 : ∀ a c, h a = some c → kd c.2 ≠ 1 → kd c.2 ≠ 103 → h2 a = some c := fun a c e m1 m2 => hfr a c e (kk_ne e a2.1 m1) (Or.inl (kk_ne e k9 m2))
  have k2 : ∀ a c, h a = some c → kd c.2 = 100 → h2 a = some c := fun a c e m => k1 a c e (by omega) (by omega)
  have hq2 := k2 _ _ hq rfl
  have hee : ∀ {L ed cap n : Nat} {g : Nat → Option Nat} {md : Int32}, LI G h tg L n g ed cap md → (A.caps ≠ 0 → cap ≠ 0 → A.eds ≠ ed) → cap ≠ 0 → ed2 ≠ ed := fun {L ed cap n g md} x n2 hc => by
    rcases hed with ⟨e, hc3⟩ | e
    · rw [e]; exact n2 hc3 hc
    · exact fun z => by rw [z, (x.cap0 hc).2] at e; cases e
  exact ⟨k1 _ _ h1 (show (9 : Nat) ≠ 1 by decide) (show (9 : Nat) ≠ 103 by decide), ⟨a1.oth a2 e1.symm (fun z9 z8 => (f1 z8 z9).symm) hfr, hl, a3.oth a2 e3 f3 hfr⟩, ⟨b1.keptK k2, b2.add hg hgn k2 hq2, b3.keptK k2⟩, ⟨c1, hn, c3⟩, ⟨inj_add d1 nq.2.1, d2, ne_addR d3 nq.1, d4, ne_addL d5 nq.2.2⟩, ⟨e1, e2, e3⟩, ⟨fun x _ => (hee a1 (fun z9 z8 => (f1 z8 z9).symm) x).symm, f2, fun _ x => hee a3 (fun z9 z8 => f3 z9 z8) x⟩⟩

theorem MoW.addF {G : GG} {h h2 : AH} {tg mo : Nat} {A : KA} {t : Int32} {sm : Int64} {σ : NS} (w : MoW G h tg mo A t sm σ) {q : Nat} {r : Nat → Int32} (hq : h q = some (tg, oRow 6 r)) (nq : (∀ i, i < σ.np → A.pa i ≠ q) ∧ (∀ i, i < σ.ns → A.sa i ≠ q) ∧ ∀ i, i < σ.nf → A.fa i ≠ q) (hn : σ.nf < 12) {ed2 cap2 : Nat} {g2 : Nat → Option Nat} {md2 : Int32} (hl : LI G h2 tg A.Lf (σ.nf + 1) g2 ed2 cap2 md2) (hc2 : cap2 ≠ 0) (hg : ∀ j, j < σ.nf → g2 j = A.gf j) (hgn : g2 σ.nf = some q) (hed : (ed2 = A.edf ∧ A.capf ≠ 0) ∨ h ed2 = none) (hfr : ∀ a c, h a = some c → a ≠ A.Lf → (a ≠ A.edf ∨ A.capf = 0) → h2 a = some c) : MoW G h2 tg mo (A.wF A.Lf ed2 cap2 md2 g2 (fun i => if i = σ.nf then q else A.fa i)) t sm (σ.wF (σ.nf + 1) (upF σ.F σ.nf r)) := by
  obtain ⟨h1, ⟨a1, a2, a3⟩, ⟨b1, b2, b3⟩, ⟨c1, c2, c3⟩, ⟨d1, d2, d3, d4, d5⟩, ⟨e1, e2, e3⟩, ⟨f1, f2, f3⟩⟩ := w
  obtain ⟨t1, k9⟩ := a3.arr
  have k1 : ∀ a c, h a = some c → kd c.2 ≠ 1 → kd c.2 ≠ 103 → h2 a = some c := fun a c e m1 m2 => hfr a c e (kk_ne e a3.1 m1) (Or.inl (kk_ne e k9 m2))
  have k2 : ∀ a c, h a = some c → kd c.2 = 100 → h2 a = some c := fun a c e m => k1 a c e (by omega) (by omega)
  have hq2 := k2 _ _ hq rfl
  have hee : ∀ {L ed cap n : Nat} {g : Nat → Option Nat} {md : Int32}, LI G h tg L n g ed cap md → (A.capf ≠ 0 → cap ≠ 0 → A.edf ≠ ed) → cap ≠ 0 → ed2 ≠ ed := fun {L ed cap n g md} x n2 hc => by
    rcases hed with ⟨e, hc3⟩ | e
    · rw [e]; exact n2 hc3 hc
    · exact fun z => by rw [z, (x.cap0 hc).2] at e; cases e
  exact ⟨k1 _ _ h1 (show (9 : Nat) ≠ 1 by decide) (show (9 : Nat) ≠ 103 by decide), ⟨a1.oth a3 e2.symm (fun z9 z8 => (f2 z8 z9).symm) hfr, a2.oth a3 e3.symm (fun z9 z8 => (f3 z8 z9).symm) hfr, hl⟩, ⟨b1.keptK k2, b2.keptK k2, b3.add hg hgn k2 hq2⟩, ⟨c1, c2, hn⟩, ⟨d1, inj_add d2 nq.2.2, d3, ne_addR d4 nq.1, ne_addR d5 nq.2.1⟩, ⟨e1, e2, e3⟩, ⟨f1, fun x _ => (hee a1 (fun z9 z8 => (f2 z8 z9).symm) x).symm, fun x _ => (hee a2 (fun z9 z8 => (f3 z8 z9).symm) x).symm⟩⟩

set_option maxHeartbeats 4000000 in
set_option maxRecDepth 100000 in
theorem k_X7_figure {l : Launch} {s0 : State} {a0 : Array Value} {G : GG} (X : CX l s0 a0 G) {h : AH} {tg mo : Nat} {A : KA} {t : Int32} {sm : Int64} {σ : NS} (htg : tg ≠ 0) (w : MoW G h tg mo A t sm σ) (x : Int32) (y : Int32)  : Con l s0 G yX7_figure cX7_figure 4 (some .int) 8 2 21 tg [.ref mo, .int x, .int y] h (PoM G tg mo (sp_figure σ x y)) := by
  refine Con.of X (by decide +kernel) [some (.ref mo), some (.int x), some (.int y), none] rfl (Nat.le_of_ble_eq_true rfl) (fun p e s m below meth c X hnm hret => ?_)
  have w0 := w
  obtain ⟨hmo, ⟨hlp, hls, hlf⟩, ⟨hP, hS, hF⟩, ⟨hn8, hn10, hn12⟩, hdd⟩ := id w
  refine aw_ald0 X dX7_figure_0 rfl ?_
  refine aw_iconst X (0) dX7_figure_1 (by decide) rfl ?_
  refine aw_put X fd_X7_35 fw_X7_0 dX7_figure_2 rfl htg hmo rfl rfl (Nat.le_of_ble_eq_true rfl) ?_
  refine aw_genP (Pr := fun h3 => MoW G h3 tg mo A 0 sm σ) (w0.obj 0 sm σ.v) (fun h1 w1 => ?_)
  clear hmo hlp hls hlf hP hS hF hdd
  obtain ⟨hmo, ⟨hlp, hls, hlf⟩, ⟨hP, hS, hF⟩, -, hdd⟩ := id w1
  refine aw_ald0 X dX7_figure_5 rfl ?_
  refine aw_ild1 X dX7_figure_6 rfl ?_
  refine aw_callV X dX7_figure_7 rfl (k_X7_isPerson X.1 w1 _) cmX7_isPerson ml_X7_101 rfl hmo rfl rfl (Nat.le_of_ble_eq_true rfl) ⟨Nat.le_of_ble_eq_true rfl, Nat.le_of_ble_eq_true rfl⟩ (aw_rs ?_)
  refine aw_if_ne (n2 := 19) X dX7_figure_10 rfl rfl (fun c10 => ?_) (fun c10 => ?_)
  · refine aw_ild2 X dX7_figure_19 rfl ?_
    refine aw_bipush X (10) dX7_figure_20 (by decide) rfl ?_
    refine aw_bipush X (90) dX7_figure_22 (by decide) rfl ?_
    refine aw_callS X dX7_figure_24 rfl (k_X7_is X.1 _ _ _) cmX7_is ml_X7_42 rfl rfl (Nat.le_of_ble_eq_true rfl) ⟨Nat.le_of_ble_eq_true rfl, Nat.le_of_ble_eq_true rfl⟩ (aw_rs ?_)
    refine aw_if_ne (n2 := 36) X dX7_figure_27 rfl rfl (fun c27 => ?_) (fun c27 => ?_)
    · refine aw_ald0 X dX7_figure_36 rfl ?_
      refine aw_get X fd_X7_16 dX7_figure_37 rfl hmo rfl ?_
      refine aw_callV X dX7_figure_40 rfl (k_size X.1 hlf) cmJx4a65c_size_8abf5 ml_X7_38 rfl hlf.1 rfl rfl (Nat.le_of_ble_eq_true rfl) ⟨Nat.le_of_ble_eq_true rfl, Nat.le_of_ble_eq_true rfl⟩ (aw_rs ?_)
      refine aw_bipush X (12) dX7_figure_43 (by decide) rfl ?_
      refine aw_icmp_ne (n2 := 54) X dX7_figure_45 rfl rfl (fun c45 => ?_) (fun c45 => ?_)
      · have hn : σ.nf < 12 := Nat.lt_of_le_of_ne hn12 (fun q => c45 (by rw [q]; rfl))
        refine aw_bipush X (6) dX7_figure_54 (by decide) rfl ?_
        refine aw_newi X dX7_figure_56 rfl (show (6 : Int32) = nI 6 by decide) (by decide) ac_int (fun q56 hq56 => ?_)
        refine aw_dup X dX7_figure_58 rfl rfl ?_
        refine aw_iconst X (0) dX7_figure_59 (by decide) rfl ?_
        refine aw_ild1 X dX7_figure_60 rfl ?_
        refine aw_iast X (0) dX7_figure_61 rfl htg hu_s rfl (by decide) (by decide) ?_
        rw [hu_hu]
        refine aw_dup X dX7_figure_62 rfl rfl ?_
        refine aw_iconst X (1) dX7_figure_63 (by decide) rfl ?_
        refine aw_ild2 X dX7_figure_64 rfl ?_
        refine aw_iast X (1) dX7_figure_65 rfl htg hu_s rfl (by decide) (by decide) ?_
        rw [hu_hu]
        refine aw_dup X dX7_figure_66 rfl rfl ?_
        refine aw_iconst X (2) dX7_figure_67 (by decide) rfl ?_
        refine aw_iconst X (0) dX7_figure_68 (by decide) rfl ?_
        refine aw_iast X (2) dX7_figure_69 rfl htg hu_s rfl (by decide) (by decide) ?_
        rw [hu_hu]
        refine aw_dup X dX7_figure_70 rfl rfl ?_
        refine aw_iconst X (3) dX7_figure_71 (by decide) rfl ?_
        refine aw_iconst X (0) dX7_figure_72 (by decide) rfl ?_
        refine aw_iast X (3) dX7_figure_73 rfl htg hu_s rfl (by decide) (by decide) ?_
        rw [hu_hu]
        refine aw_dup X dX7_figure_74 rfl rfl ?_
        refine aw_iconst X (4) dX7_figure_75 (by decide) rfl ?_
        refine aw_iconst X (-1) dX7_figure_76 (by decide) rfl ?_
        refine aw_iast X (4) dX7_figure_77 rfl htg hu_s rfl (by decide) (by decide) ?_
        rw [hu_hu]
        refine aw_dup X dX7_figure_78 rfl rfl ?_
        refine aw_iconst X (5) dX7_figure_79 (by decide) rfl ?_
        refine aw_iconst X (0) dX7_figure_80 (by decide) rfl ?_
        refine aw_iast X (5) dX7_figure_81 rfl htg hu_s rfl (by decide) (by decide) ?_
        rw [hu_hu]
        have nq : (∀ i, i < σ.np → A.pa i ≠ q56) ∧ (∀ i, i < σ.ns → A.sa i ≠ q56) ∧ ∀ i, i < σ.nf → A.fa i ≠ q56 := ⟨fun i hi => nn_ne (hP i hi).2 hq56, fun i hi => nn_ne (hS i hi).2 hq56, fun i hi => nn_ne (hF i hi).2 hq56⟩
        refine aw_genP (Pr := fun h3 => MoW G h3 tg mo A 0 sm σ ∧ h3 q56 = some (tg, oRow 6 (r6 x y 0 0 (-1) 0))) ⟨w1.ext (fun a c e => hu_k hq56 e), hu_s⟩ (fun hB wz => ?_)
        obtain ⟨wB, hqB⟩ := wz
        clear hmo hlp hls hlf hP hS hF hdd
        obtain ⟨hmo, ⟨hlp, hls, hlf⟩, ⟨hP, hS, hF⟩, -, hdd⟩ := id wB
        refine aw_ast3 X dX7_figure_82 rfl (by decide) rfl ?_
        refine aw_ald0 X dX7_figure_83 rfl ?_
        refine aw_get X fd_X7_16 dX7_figure_84 rfl hmo rfl ?_
        refine aw_ald3 X dX7_figure_87 rfl ?_
        have hqL : q56 ≠ A.Lf := kk_ne hqB hlf.1 (show (100 : Nat) ≠ 1 by decide)
        refine aw_callV X dX7_figure_88 rfl (k_ladd X.1 htg hlf (by omega) (fun j hj => ⟨A.fa j, tg, _, (hF j hj).1, (hF j hj).2, ob_row⟩) hqB ob_row hqL) cmJx4a65c_add_9ea2d ml_X7_97 rfl hlf.1 rfl rfl (Nat.le_of_ble_eq_true rfl) ⟨Nat.le_of_ble_eq_true rfl, Nat.le_of_ble_eq_true rfl⟩ (fun r h2 hq hf => ?_)
        obtain ⟨rfl, ed2, cap2, g2, md2, hl2, hc2, hg2, hgn, hed, hfr⟩ := hq
        have w2 := wB.addF hqB nq hn hl2 hc2 hg2 hgn hed hfr
        refine aw_pop X dX7_figure_91 rfl rfl ?_
        refine aw_ald0 X dX7_figure_92 rfl ?_
        refine aw_get X fd_X7_16 dX7_figure_93 rfl w2.1 rfl ?_
        refine aw_callV X dX7_figure_96 rfl (k_size X.1 w2.2.1.2.2) cmJx4a65c_size_8abf5 ml_X7_38 rfl w2.2.1.2.2.1 rfl rfl (Nat.le_of_ble_eq_true rfl) ⟨Nat.le_of_ble_eq_true rfl, Nat.le_of_ble_eq_true rfl⟩ (aw_rs ?_)
        refine aw_iconst X (1) dX7_figure_99 (by decide) rfl ?_
        refine aw_isub X dX7_figure_100 rfl ?_
        exact aw_iret X hret rfl dX7_figure_101 (PoM.mk (k := 0) (σ2 := σ.wF (σ.nf + 1) (upF σ.F σ.nf (r6 x y 0 0 (-1) 0))) (by unfold sp_figure; rw [if_neg (fun q => q (bI_y c10)), if_neg (isY (bI_y c27)), if_neg (fun q => q hn)]; show _ = (0, nI (σ.nf + 1) - 1, _); rw [← nI_1, Int32.add_sub_cancel]) w2)
      · refine aw_ald0 X dX7_figure_48 rfl ?_
        refine aw_iconst X (3) dX7_figure_49 (by decide) rfl ?_
        refine aw_callV X dX7_figure_50 rfl (k_X7_refuse X.1 htg w1 3) cmX7_refuse ml_X7_93 rfl hmo rfl rfl (Nat.le_of_ble_eq_true rfl) ⟨Nat.le_of_ble_eq_true rfl, Nat.le_of_ble_eq_true rfl⟩ (fun r h2 hq hf => ?_)
        obtain ⟨rfl, hwr⟩ := hq
        exact aw_iret X hret rfl dX7_figure_53 (PoM.mk (k := 3) (σ2 := σ) (by unfold sp_figure; rw [if_neg (fun q => q (bI_y c10)), if_neg (isY (bI_y c27)), if_pos (fun q => absurd (show σ.nf = 12 from (nI_eq (b := 12) (by omega) (by decide)).mp c45) (Nat.ne_of_lt q))]) hwr)
    · refine aw_ald0 X dX7_figure_30 rfl ?_
      refine aw_iconst X (2) dX7_figure_31 (by decide) rfl ?_
      refine aw_callV X dX7_figure_32 rfl (k_X7_refuse X.1 htg w1 2) cmX7_refuse ml_X7_93 rfl hmo rfl rfl (Nat.le_of_ble_eq_true rfl) ⟨Nat.le_of_ble_eq_true rfl, Nat.le_of_ble_eq_true rfl⟩ (fun r h2 hq hf => ?_)
      obtain ⟨rfl, hwr⟩ := hq
      exact aw_iret X hret rfl dX7_figure_35 (PoM.mk (k := 2) (σ2 := σ) (by unfold sp_figure; rw [if_neg (fun q => q (bI_y c10)), if_pos (isN (bI_n c27))]) hwr)
  · refine aw_ald0 X dX7_figure_13 rfl ?_
    refine aw_iconst X (1) dX7_figure_14 (by decide) rfl ?_
    refine aw_callV X dX7_figure_15 rfl (k_X7_refuse X.1 htg w1 1) cmX7_refuse ml_X7_93 rfl hmo rfl rfl (Nat.le_of_ble_eq_true rfl) ⟨Nat.le_of_ble_eq_true rfl, Nat.le_of_ble_eq_true rfl⟩ (fun r h2 hq hf => ?_)
    obtain ⟨rfl, hwr⟩ := hq
    exact aw_iret X hret rfl dX7_figure_18 (PoM.mk (k := 1) (σ2 := σ) (by unfold sp_figure; rw [if_pos (bI_n c10)]) hwr)

theorem s_le {u v : Int32} (h : 0 ≤ u ∧ u ≤ 99) : (u + 1 ≤ v) ↔ u < v := by
  obtain ⟨a, ha, e⟩ := i_le (n := 99) h.1 h.2 (by decide)
  rw [e, nI_1, Int32.le_iff_toInt_le, Int32.lt_iff_toInt_lt, nI_toInt (by omega), nI_toInt (by omega)]
  omega
theorem cast_is {z : Int32} {n : Nat} (hn : n ≤ 8) : (1 ≤ z ∧ z ≤ ((1 : Int32) <<< (nI n &&& 31)) - 1) ↔ (0 < z ∧ z < (1 : Int32) <<< (nI n &&& 31)) := by
  rw [pw2 n (by omega)]
  have h2 : 2 ^ n ≤ 2 ^ 8 := Nat.pow_le_pow_right (by decide) hn
  have h1 : 0 < 2 ^ n := Nat.pow_pos (by decide)
  rw [show nI (2 ^ n) - 1 = nI (2 ^ n - 1) from pk_sub (a := 2 ^ n) (b := 1) h1, Int32.le_iff_toInt_le, Int32.le_iff_toInt_le, Int32.lt_iff_toInt_lt, Int32.lt_iff_toInt_lt, nI_toInt (by omega), nI_toInt (by omega), show (1 : Int32).toInt = 1 by decide, show (0 : Int32).toInt = 0 by decide]
  omega
theorem isOf_iff {ca x : Int32} {n : Nat} (hn : n ≤ 8) (hc : 0 < ca ∧ ca < (1 : Int32) <<< (nI n &&& 31)) : (x = -1 ∨ ((0 ≤ x ∧ x < nI n) ∧ (ca >>> (x &&& 31)) &&& 1 = 1)) ↔ (x = -1 ∨ holdsP ca x) := by
  refine or_congr Iff.rfl ⟨fun q => ⟨q.1.1, Int32.lt_trans q.1.2 (show nI n < nI 31 from nI_lt (by omega) (by decide)), q.2⟩, fun q => ?_⟩
  obtain ⟨i, hi, e⟩ := cast_ix hn hc.1 hc.2 q
  exact ⟨⟨q.1, by rw [e]; exact nI_lt hi (by omega)⟩, q.2.2⟩

set_option maxHeartbeats 4000000 in
set_option maxRecDepth 100000 in
theorem k_X7_person {l : Launch} {s0 : State} {a0 : Array Value} {G : GG} (X : CX l s0 a0 G) {h : AH} {tg mo : Nat} {A : KA} {t : Int32} {sm : Int64} {σ : NS} (htg : tg ≠ 0) (w : MoW G h tg mo A t sm σ) (x : Int32) (y : Int32) (z : Int32) (u : Int32) (v9 : Int32) (w9 : Int32) (hw9 : w9 = 0 ∨ w9 = 1)  : Con l s0 G yX7_person cX7_person 8 (some .int) 8 2 21 tg [.ref mo, .int x, .int y, .int z, .int u, .int v9, .int w9] h (PoM G tg mo (sp_person σ x y z u v9 w9)) := by
  refine Con.of X (by decide +kernel) [some (.ref mo), some (.int x), some (.int y), some (.int z), some (.int u), some (.int v9), some (.int w9), none] rfl (Nat.le_of_ble_eq_true rfl) (fun p e s m below meth c X hnm hret => ?_)
  have w0 := w
  obtain ⟨hmo, ⟨hlp, hls, hlf⟩, ⟨hP, hS, hF⟩, ⟨hn8, hn10, hn12⟩, hdd⟩ := id w
  refine aw_ald0 X dX7_person_0 rfl ?_
  refine aw_iconst X (0) dX7_person_1 (by decide) rfl ?_
  refine aw_put X fd_X7_35 fw_X7_0 dX7_person_2 rfl htg hmo rfl rfl (Nat.le_of_ble_eq_true rfl) ?_
  refine aw_genP (Pr := fun h3 => MoW G h3 tg mo A 0 sm σ) (w0.obj 0 sm σ.v) (fun h1 w1 => ?_)
  clear hmo hlp hls hlf hP hS hF hdd
  obtain ⟨hmo, ⟨hlp, hls, hlf⟩, ⟨hP, hS, hF⟩, -, hdd⟩ := id w1
  refine aw_ild1 X dX7_person_5 rfl ?_
  refine aw_iconst X (0) dX7_person_6 (by decide) rfl ?_
  refine aw_iconst X (1) dX7_person_7 (by decide) rfl ?_
  refine aw_callS X dX7_person_8 rfl (k_X7_is X.1 _ _ _) cmX7_is ml_X7_42 rfl rfl (Nat.le_of_ble_eq_true rfl) ⟨Nat.le_of_ble_eq_true rfl, Nat.le_of_ble_eq_true rfl⟩ (aw_rs ?_)
  refine aw_if_eq (n2 := 58) X dX7_person_11 rfl rfl (fun c11 => ?_) (fun c11 => ?_)
  · refine aw_ald0 X dX7_person_58 rfl ?_
    refine aw_iconst X (1) dX7_person_59 (by decide) rfl ?_
    refine aw_callV X dX7_person_60 rfl (k_X7_refuse X.1 htg w1 1) cmX7_refuse ml_X7_93 rfl hmo rfl rfl (Nat.le_of_ble_eq_true rfl) ⟨Nat.le_of_ble_eq_true rfl, Nat.le_of_ble_eq_true rfl⟩ (fun r h2 hq hf => ?_)
    obtain ⟨rfl, hwr⟩ := hq
    exact aw_iret X hret rfl dX7_person_63 (PoM.mk (k := 1) (σ2 := σ) (by unfold sp_person; rw [if_pos (Or.inl (isN (bI_n c11)))]) hwr)
  · refine aw_ild2 X dX7_person_14 rfl ?_
    refine aw_iconst X (0) dX7_person_15 (by decide) rfl ?_
    refine aw_iconst X (3) dX7_person_16 (by decide) rfl ?_
    refine aw_callS X dX7_person_17 rfl (k_X7_is X.1 _ _ _) cmX7_is ml_X7_42 rfl rfl (Nat.le_of_ble_eq_true rfl) ⟨Nat.le_of_ble_eq_true rfl, Nat.le_of_ble_eq_true rfl⟩ (aw_rs ?_)
    refine aw_if_eq (n2 := 58) X dX7_person_20 rfl rfl (fun c20 => ?_) (fun c20 => ?_)
    · refine aw_ald0 X dX7_person_58 rfl ?_
      refine aw_iconst X (1) dX7_person_59 (by decide) rfl ?_
      refine aw_callV X dX7_person_60 rfl (k_X7_refuse X.1 htg w1 1) cmX7_refuse ml_X7_93 rfl hmo rfl rfl (Nat.le_of_ble_eq_true rfl) ⟨Nat.le_of_ble_eq_true rfl, Nat.le_of_ble_eq_true rfl⟩ (fun r h2 hq hf => ?_)
      obtain ⟨rfl, hwr⟩ := hq
      exact aw_iret X hret rfl dX7_person_63 (PoM.mk (k := 1) (σ2 := σ) (by unfold sp_person; rw [if_pos (Or.inr (Or.inl (isN (bI_n c20))))]) hwr)
    · refine aw_ild3 X dX7_person_23 rfl ?_
      refine aw_iconst X (0) dX7_person_24 (by decide) rfl ?_
      refine aw_bipush X (9) dX7_person_25 (by decide) rfl ?_
      refine aw_callS X dX7_person_27 rfl (k_X7_is X.1 _ _ _) cmX7_is ml_X7_42 rfl rfl (Nat.le_of_ble_eq_true rfl) ⟨Nat.le_of_ble_eq_true rfl, Nat.le_of_ble_eq_true rfl⟩ (aw_rs ?_)
      refine aw_if_eq (n2 := 58) X dX7_person_30 rfl rfl (fun c30 => ?_) (fun c30 => ?_)
      · refine aw_ald0 X dX7_person_58 rfl ?_
        refine aw_iconst X (1) dX7_person_59 (by decide) rfl ?_
        refine aw_callV X dX7_person_60 rfl (k_X7_refuse X.1 htg w1 1) cmX7_refuse ml_X7_93 rfl hmo rfl rfl (Nat.le_of_ble_eq_true rfl) ⟨Nat.le_of_ble_eq_true rfl, Nat.le_of_ble_eq_true rfl⟩ (fun r h2 hq hf => ?_)
        obtain ⟨rfl, hwr⟩ := hq
        exact aw_iret X hret rfl dX7_person_63 (PoM.mk (k := 1) (σ2 := σ) (by unfold sp_person; rw [if_pos (Or.inr (Or.inr (Or.inl (isN (bI_n c30)))))]) hwr)
      · refine aw_ild4 X dX7_person_33 rfl ?_
        refine aw_iconst X (0) dX7_person_35 (by decide) rfl ?_
        refine aw_bipush X (99) dX7_person_36 (by decide) rfl ?_
        refine aw_callS X dX7_person_38 rfl (k_X7_is X.1 _ _ _) cmX7_is ml_X7_42 rfl rfl (Nat.le_of_ble_eq_true rfl) ⟨Nat.le_of_ble_eq_true rfl, Nat.le_of_ble_eq_true rfl⟩ (aw_rs ?_)
        refine aw_if_eq (n2 := 58) X dX7_person_41 rfl rfl (fun c41 => ?_) (fun c41 => ?_)
        · refine aw_ald0 X dX7_person_58 rfl ?_
          refine aw_iconst X (1) dX7_person_59 (by decide) rfl ?_
          refine aw_callV X dX7_person_60 rfl (k_X7_refuse X.1 htg w1 1) cmX7_refuse ml_X7_93 rfl hmo rfl rfl (Nat.le_of_ble_eq_true rfl) ⟨Nat.le_of_ble_eq_true rfl, Nat.le_of_ble_eq_true rfl⟩ (fun r h2 hq hf => ?_)
          obtain ⟨rfl, hwr⟩ := hq
          exact aw_iret X hret rfl dX7_person_63 (PoM.mk (k := 1) (σ2 := σ) (by unfold sp_person; rw [if_pos (Or.inr (Or.inr (Or.inr (Or.inl (isN (bI_n c41))))))]) hwr)
        · refine aw_ild5 X dX7_person_44 rfl ?_
          refine aw_ild4 X dX7_person_46 rfl ?_
          refine aw_iconst X (1) dX7_person_48 (by decide) rfl ?_
          refine aw_iadd X dX7_person_49 rfl ?_
          refine aw_bipush X (100) dX7_person_50 (by decide) rfl ?_
          refine aw_callS X dX7_person_52 rfl (k_X7_is X.1 _ _ _) cmX7_is ml_X7_42 rfl rfl (Nat.le_of_ble_eq_true rfl) ⟨Nat.le_of_ble_eq_true rfl, Nat.le_of_ble_eq_true rfl⟩ (aw_rs ?_)
          refine aw_if_ne (n2 := 64) X dX7_person_55 rfl rfl (fun c55 => ?_) (fun c55 => ?_)
          · refine aw_ald0 X dX7_person_64 rfl ?_
            refine aw_get X fd_X7_10 dX7_person_65 rfl hmo rfl ?_
            refine aw_callV X dX7_person_68 rfl (k_size X.1 hlp) cmJx4a65c_size_8abf5 ml_X7_38 rfl hlp.1 rfl rfl (Nat.le_of_ble_eq_true rfl) ⟨Nat.le_of_ble_eq_true rfl, Nat.le_of_ble_eq_true rfl⟩ (aw_rs ?_)
            refine aw_bipush X (8) dX7_person_71 (by decide) rfl ?_
            refine aw_icmp_ne (n2 := 82) X dX7_person_73 rfl rfl (fun c73 => ?_) (fun c73 => ?_)
            · have hn : σ.np < 8 := Nat.lt_of_le_of_ne hn8 (fun q => c73 (by rw [q]; rfl))
              refine aw_bipush X (6) dX7_person_82 (by decide) rfl ?_
              refine aw_newi X dX7_person_84 rfl (show (6 : Int32) = nI 6 by decide) (by decide) ac_int (fun q84 hq84 => ?_)
              refine aw_dup X dX7_person_86 rfl rfl ?_
              refine aw_iconst X (0) dX7_person_87 (by decide) rfl ?_
              refine aw_ild1 X dX7_person_88 rfl ?_
              refine aw_iast X (0) dX7_person_89 rfl htg hu_s rfl (by decide) (by decide) ?_
              rw [hu_hu]
              refine aw_dup X dX7_person_90 rfl rfl ?_
              refine aw_iconst X (1) dX7_person_91 (by decide) rfl ?_
              refine aw_ild2 X dX7_person_92 rfl ?_
              refine aw_iast X (1) dX7_person_93 rfl htg hu_s rfl (by decide) (by decide) ?_
              rw [hu_hu]
              refine aw_dup X dX7_person_94 rfl rfl ?_
              refine aw_iconst X (2) dX7_person_95 (by decide) rfl ?_
              refine aw_ild3 X dX7_person_96 rfl ?_
              refine aw_iast X (2) dX7_person_97 rfl htg hu_s rfl (by decide) (by decide) ?_
              rw [hu_hu]
              refine aw_dup X dX7_person_98 rfl rfl ?_
              refine aw_iconst X (3) dX7_person_99 (by decide) rfl ?_
              refine aw_ild4 X dX7_person_100 rfl ?_
              refine aw_iast X (3) dX7_person_102 rfl htg hu_s rfl (by decide) (by decide) ?_
              rw [hu_hu]
              refine aw_dup X dX7_person_103 rfl rfl ?_
              refine aw_iconst X (4) dX7_person_104 (by decide) rfl ?_
              refine aw_ild5 X dX7_person_105 rfl ?_
              refine aw_iast X (4) dX7_person_107 rfl htg hu_s rfl (by decide) (by decide) ?_
              rw [hu_hu]
              refine aw_dup X dX7_person_108 rfl rfl ?_
              refine aw_iconst X (5) dX7_person_109 (by decide) rfl ?_
              refine aw_ild6 X dX7_person_110 rfl ?_
              refine aw_if_eq (n2 := 119) X dX7_person_112 rfl rfl (fun c112 => ?_) (fun c112 => ?_)
              · subst c112
                refine aw_iconst X (0) dX7_person_119 (by decide) rfl ?_
                refine aw_iast X (5) dX7_person_120 rfl htg hu_s rfl (by decide) (by decide) ?_
                rw [hu_hu]
                have nq : (∀ i, i < σ.np → A.pa i ≠ q84) ∧ (∀ i, i < σ.ns → A.sa i ≠ q84) ∧ ∀ i, i < σ.nf → A.fa i ≠ q84 := ⟨fun i hi => nn_ne (hP i hi).2 hq84, fun i hi => nn_ne (hS i hi).2 hq84, fun i hi => nn_ne (hF i hi).2 hq84⟩
                refine aw_genP (Pr := fun h3 => MoW G h3 tg mo A 0 sm σ ∧ h3 q84 = some (tg, oRow 6 (r6 x y z u v9 0))) ⟨w1.ext (fun a c e => hu_k hq84 e), hu_s⟩ (fun hB wz => ?_)
                obtain ⟨wB, hqB⟩ := wz
                clear hmo hlp hls hlf hP hS hF hdd
                obtain ⟨hmo, ⟨hlp, hls, hlf⟩, ⟨hP, hS, hF⟩, -, hdd⟩ := id wB
                refine aw_ast7 X dX7_person_121 rfl (by decide) rfl ?_
                refine aw_ald0 X dX7_person_123 rfl ?_
                refine aw_get X fd_X7_10 dX7_person_124 rfl hmo rfl ?_
                refine aw_ald7 X dX7_person_127 rfl ?_
                have hqL : q84 ≠ A.Lp := kk_ne hqB hlp.1 (show (100 : Nat) ≠ 1 by decide)
                refine aw_callV X dX7_person_129 rfl (k_ladd X.1 htg hlp (by omega) (fun j hj => ⟨A.pa j, tg, _, (hP j hj).1, (hP j hj).2, ob_row⟩) hqB ob_row hqL) cmJx4a65c_add_9ea2d ml_X7_97 rfl hlp.1 rfl rfl (Nat.le_of_ble_eq_true rfl) ⟨Nat.le_of_ble_eq_true rfl, Nat.le_of_ble_eq_true rfl⟩ (fun r h2 hq hf => ?_)
                obtain ⟨rfl, ed2, cap2, g2, md2, hl2, hc2, hg2, hgn, hed, hfr⟩ := hq
                have w2 := wB.addP hqB nq hn hl2 hc2 hg2 hgn hed hfr
                refine aw_pop X dX7_person_132 rfl rfl ?_
                refine aw_ald0 X dX7_person_133 rfl ?_
                refine aw_get X fd_X7_10 dX7_person_134 rfl w2.1 rfl ?_
                refine aw_callV X dX7_person_137 rfl (k_size X.1 w2.2.1.1) cmJx4a65c_size_8abf5 ml_X7_38 rfl w2.2.1.1.1 rfl rfl (Nat.le_of_ble_eq_true rfl) ⟨Nat.le_of_ble_eq_true rfl, Nat.le_of_ble_eq_true rfl⟩ (aw_rs ?_)
                refine aw_iconst X (1) dX7_person_140 (by decide) rfl ?_
                refine aw_isub X dX7_person_141 rfl ?_
                exact aw_iret X hret rfl dX7_person_142 (PoM.mk (k := 0) (σ2 := σ.wP (σ.np + 1) (upF σ.P σ.np (r6 x y z u v9 0))) (by unfold sp_person; rw [if_neg (fun q => q.elim (isY (bI_y c11)) (fun q => q.elim (isY (bI_y c20)) (fun q => q.elim (isY (bI_y c30)) (fun q => q.elim (isY (bI_y c41)) (fun q => q.elim (fun z9 => Int32.not_le.mpr ((s_le (bI_y c41)).mp (bI_y c55).1) z9) (fun z9 => z9 (bI_y c55).2)))))), if_neg (fun q => q hn)]; show _ = (0, nI (σ.np + 1) - 1, _); rw [← nI_1, Int32.add_sub_cancel]) w2)
              · obtain rfl := hw9.resolve_left c112
                refine aw_iconst X (1) dX7_person_115 (by decide) rfl ?_
                refine aw_goto (n := 120) X dX7_person_116 rfl ?_
                refine aw_iast X (5) dX7_person_120 rfl htg hu_s rfl (by decide) (by decide) ?_
                rw [hu_hu]
                have nq : (∀ i, i < σ.np → A.pa i ≠ q84) ∧ (∀ i, i < σ.ns → A.sa i ≠ q84) ∧ ∀ i, i < σ.nf → A.fa i ≠ q84 := ⟨fun i hi => nn_ne (hP i hi).2 hq84, fun i hi => nn_ne (hS i hi).2 hq84, fun i hi => nn_ne (hF i hi).2 hq84⟩
                refine aw_genP (Pr := fun h3 => MoW G h3 tg mo A 0 sm σ ∧ h3 q84 = some (tg, oRow 6 (r6 x y z u v9 1))) ⟨w1.ext (fun a c e => hu_k hq84 e), hu_s⟩ (fun hB wz => ?_)
                obtain ⟨wB, hqB⟩ := wz
                clear hmo hlp hls hlf hP hS hF hdd
                obtain ⟨hmo, ⟨hlp, hls, hlf⟩, ⟨hP, hS, hF⟩, -, hdd⟩ := id wB
                refine aw_ast7 X dX7_person_121 rfl (by decide) rfl ?_
                refine aw_ald0 X dX7_person_123 rfl ?_
                refine aw_get X fd_X7_10 dX7_person_124 rfl hmo rfl ?_
                refine aw_ald7 X dX7_person_127 rfl ?_
                have hqL : q84 ≠ A.Lp := kk_ne hqB hlp.1 (show (100 : Nat) ≠ 1 by decide)
                refine aw_callV X dX7_person_129 rfl (k_ladd X.1 htg hlp (by omega) (fun j hj => ⟨A.pa j, tg, _, (hP j hj).1, (hP j hj).2, ob_row⟩) hqB ob_row hqL) cmJx4a65c_add_9ea2d ml_X7_97 rfl hlp.1 rfl rfl (Nat.le_of_ble_eq_true rfl) ⟨Nat.le_of_ble_eq_true rfl, Nat.le_of_ble_eq_true rfl⟩ (fun r h2 hq hf => ?_)
                obtain ⟨rfl, ed2, cap2, g2, md2, hl2, hc2, hg2, hgn, hed, hfr⟩ := hq
                have w2 := wB.addP hqB nq hn hl2 hc2 hg2 hgn hed hfr
                refine aw_pop X dX7_person_132 rfl rfl ?_
                refine aw_ald0 X dX7_person_133 rfl ?_
                refine aw_get X fd_X7_10 dX7_person_134 rfl w2.1 rfl ?_
                refine aw_callV X dX7_person_137 rfl (k_size X.1 w2.2.1.1) cmJx4a65c_size_8abf5 ml_X7_38 rfl w2.2.1.1.1 rfl rfl (Nat.le_of_ble_eq_true rfl) ⟨Nat.le_of_ble_eq_true rfl, Nat.le_of_ble_eq_true rfl⟩ (aw_rs ?_)
                refine aw_iconst X (1) dX7_person_140 (by decide) rfl ?_
                refine aw_isub X dX7_person_141 rfl ?_
                exact aw_iret X hret rfl dX7_person_142 (PoM.mk (k := 0) (σ2 := σ.wP (σ.np + 1) (upF σ.P σ.np (r6 x y z u v9 1))) (by unfold sp_person; rw [if_neg (fun q => q.elim (isY (bI_y c11)) (fun q => q.elim (isY (bI_y c20)) (fun q => q.elim (isY (bI_y c30)) (fun q => q.elim (isY (bI_y c41)) (fun q => q.elim (fun z9 => Int32.not_le.mpr ((s_le (bI_y c41)).mp (bI_y c55).1) z9) (fun z9 => z9 (bI_y c55).2)))))), if_neg (fun q => q hn)]; show _ = (0, nI (σ.np + 1) - 1, _); rw [← nI_1, Int32.add_sub_cancel]) w2)
            · refine aw_ald0 X dX7_person_76 rfl ?_
              refine aw_iconst X (2) dX7_person_77 (by decide) rfl ?_
              refine aw_callV X dX7_person_78 rfl (k_X7_refuse X.1 htg w1 2) cmX7_refuse ml_X7_93 rfl hmo rfl rfl (Nat.le_of_ble_eq_true rfl) ⟨Nat.le_of_ble_eq_true rfl, Nat.le_of_ble_eq_true rfl⟩ (fun r h2 hq hf => ?_)
              obtain ⟨rfl, hwr⟩ := hq
              exact aw_iret X hret rfl dX7_person_81 (PoM.mk (k := 2) (σ2 := σ) (by unfold sp_person; rw [if_neg (fun q => q.elim (isY (bI_y c11)) (fun q => q.elim (isY (bI_y c20)) (fun q => q.elim (isY (bI_y c30)) (fun q => q.elim (isY (bI_y c41)) (fun q => q.elim (fun z9 => Int32.not_le.mpr ((s_le (bI_y c41)).mp (bI_y c55).1) z9) (fun z9 => z9 (bI_y c55).2)))))), if_pos (fun q => absurd (show σ.np = 8 from (nI_eq (b := 8) (by omega) (by decide)).mp c73) (Nat.ne_of_lt q))]) hwr)
          · refine aw_ald0 X dX7_person_58 rfl ?_
            refine aw_iconst X (1) dX7_person_59 (by decide) rfl ?_
            refine aw_callV X dX7_person_60 rfl (k_X7_refuse X.1 htg w1 1) cmX7_refuse ml_X7_93 rfl hmo rfl rfl (Nat.le_of_ble_eq_true rfl) ⟨Nat.le_of_ble_eq_true rfl, Nat.le_of_ble_eq_true rfl⟩ (fun r h2 hq hf => ?_)
            obtain ⟨rfl, hwr⟩ := hq
            exact aw_iret X hret rfl dX7_person_63 (PoM.mk (k := 1) (σ2 := σ) (by unfold sp_person; rw [if_pos (Decidable.byContradiction (fun z9 => bI_n c55 ⟨(s_le (bI_y c41)).mpr (Int32.not_le.mp (fun z8 => z9 (Or.inr (Or.inr (Or.inr (Or.inr (Or.inl z8))))))), Decidable.of_not_not (fun z8 => z9 (Or.inr (Or.inr (Or.inr (Or.inr (Or.inr z8))))))⟩))]) hwr)

set_option maxHeartbeats 4000000 in
set_option maxRecDepth 100000 in
theorem k_X7_scene {l : Launch} {s0 : State} {a0 : Array Value} {G : GG} (X : CX l s0 a0 G) {h : AH} {tg mo : Nat} {A : KA} {t : Int32} {sm : Int64} {σ : NS} (htg : tg ≠ 0) (w : MoW G h tg mo A t sm σ) (x : Int32) (y : Int32) (z : Int32) (u : Int32) (v9 : Int32) (w9 : Int32)  : Con l s0 G yX7_scene cX7_scene 8 (some .int) 8 2 21 tg [.ref mo, .int x, .int y, .int z, .int u, .int v9, .int w9] h (PoM G tg mo (sp_scene σ x y z u v9 w9)) := by
  refine Con.of X (by decide +kernel) [some (.ref mo), some (.int x), some (.int y), some (.int z), some (.int u), some (.int v9), some (.int w9), none] rfl (Nat.le_of_ble_eq_true rfl) (fun p e s m below meth c X hnm hret => ?_)
  have w0 := w
  obtain ⟨hmo, ⟨hlp, hls, hlf⟩, ⟨hP, hS, hF⟩, ⟨hn8, hn10, hn12⟩, hdd⟩ := id w
  refine aw_ald0 X dX7_scene_0 rfl ?_
  refine aw_iconst X (0) dX7_scene_1 (by decide) rfl ?_
  refine aw_put X fd_X7_35 fw_X7_0 dX7_scene_2 rfl htg hmo rfl rfl (Nat.le_of_ble_eq_true rfl) ?_
  refine aw_genP (Pr := fun h3 => MoW G h3 tg mo A 0 sm σ) (w0.obj 0 sm σ.v) (fun h1 w1 => ?_)
  clear hmo hlp hls hlf hP hS hF hdd
  obtain ⟨hmo, ⟨hlp, hls, hlf⟩, ⟨hP, hS, hF⟩, -, hdd⟩ := id w1
  refine aw_ild1 X dX7_scene_5 rfl ?_
  refine aw_iconst X (0) dX7_scene_6 (by decide) rfl ?_
  refine aw_bipush X (100) dX7_scene_7 (by decide) rfl ?_
  refine aw_callS X dX7_scene_9 rfl (k_X7_is X.1 _ _ _) cmX7_is ml_X7_42 rfl rfl (Nat.le_of_ble_eq_true rfl) ⟨Nat.le_of_ble_eq_true rfl, Nat.le_of_ble_eq_true rfl⟩ (aw_rs ?_)
  refine aw_if_eq (n2 := 74) X dX7_scene_12 rfl rfl (fun c12 => ?_) (fun c12 => ?_)
  · refine aw_ald0 X dX7_scene_74 rfl ?_
    refine aw_iconst X (1) dX7_scene_75 (by decide) rfl ?_
    refine aw_callV X dX7_scene_76 rfl (k_X7_refuse X.1 htg w1 1) cmX7_refuse ml_X7_93 rfl hmo rfl rfl (Nat.le_of_ble_eq_true rfl) ⟨Nat.le_of_ble_eq_true rfl, Nat.le_of_ble_eq_true rfl⟩ (fun r h2 hq hf => ?_)
    obtain ⟨rfl, hwr⟩ := hq
    exact aw_iret X hret rfl dX7_scene_79 (PoM.mk (k := 1) (σ2 := σ) (by unfold sp_scene; rw [if_pos (Or.inl (isN (bI_n c12)))]) hwr)
  · refine aw_ild2 X dX7_scene_15 rfl ?_
    refine aw_iconst X (0) dX7_scene_16 (by decide) rfl ?_
    refine aw_iconst X (3) dX7_scene_17 (by decide) rfl ?_
    refine aw_callS X dX7_scene_18 rfl (k_X7_is X.1 _ _ _) cmX7_is ml_X7_42 rfl rfl (Nat.le_of_ble_eq_true rfl) ⟨Nat.le_of_ble_eq_true rfl, Nat.le_of_ble_eq_true rfl⟩ (aw_rs ?_)
    refine aw_if_eq (n2 := 74) X dX7_scene_21 rfl rfl (fun c21 => ?_) (fun c21 => ?_)
    · refine aw_ald0 X dX7_scene_74 rfl ?_
      refine aw_iconst X (1) dX7_scene_75 (by decide) rfl ?_
      refine aw_callV X dX7_scene_76 rfl (k_X7_refuse X.1 htg w1 1) cmX7_refuse ml_X7_93 rfl hmo rfl rfl (Nat.le_of_ble_eq_true rfl) ⟨Nat.le_of_ble_eq_true rfl, Nat.le_of_ble_eq_true rfl⟩ (fun r h2 hq hf => ?_)
      obtain ⟨rfl, hwr⟩ := hq
      exact aw_iret X hret rfl dX7_scene_79 (PoM.mk (k := 1) (σ2 := σ) (by unfold sp_scene; rw [if_pos (Or.inr (Or.inl (isN (bI_n c21))))]) hwr)
    · refine aw_ild3 X dX7_scene_24 rfl ?_
      refine aw_iconst X (1) dX7_scene_25 (by decide) rfl ?_
      refine aw_iconst X (1) dX7_scene_26 (by decide) rfl ?_
      refine aw_ald0 X dX7_scene_27 rfl ?_
      refine aw_get X fd_X7_10 dX7_scene_28 rfl hmo rfl ?_
      refine aw_callV X dX7_scene_31 rfl (k_size X.1 hlp) cmJx4a65c_size_8abf5 ml_X7_38 rfl hlp.1 rfl rfl (Nat.le_of_ble_eq_true rfl) ⟨Nat.le_of_ble_eq_true rfl, Nat.le_of_ble_eq_true rfl⟩ (aw_rs ?_)
      refine aw_ishl X dX7_scene_34 rfl ?_
      refine aw_iconst X (1) dX7_scene_35 (by decide) rfl ?_
      refine aw_isub X dX7_scene_36 rfl ?_
      refine aw_callS X dX7_scene_37 rfl (k_X7_is X.1 _ _ _) cmX7_is ml_X7_42 rfl rfl (Nat.le_of_ble_eq_true rfl) ⟨Nat.le_of_ble_eq_true rfl, Nat.le_of_ble_eq_true rfl⟩ (aw_rs ?_)
      refine aw_if_eq (n2 := 74) X dX7_scene_40 rfl rfl (fun c40 => ?_) (fun c40 => ?_)
      · refine aw_ald0 X dX7_scene_74 rfl ?_
        refine aw_iconst X (1) dX7_scene_75 (by decide) rfl ?_
        refine aw_callV X dX7_scene_76 rfl (k_X7_refuse X.1 htg w1 1) cmX7_refuse ml_X7_93 rfl hmo rfl rfl (Nat.le_of_ble_eq_true rfl) ⟨Nat.le_of_ble_eq_true rfl, Nat.le_of_ble_eq_true rfl⟩ (fun r h2 hq hf => ?_)
        obtain ⟨rfl, hwr⟩ := hq
        exact aw_iret X hret rfl dX7_scene_79 (PoM.mk (k := 1) (σ2 := σ) (by unfold sp_scene; rw [if_pos (Or.inr (Or.inr (Or.inl (fun z9 => bI_n c40 ((cast_is hn8).mpr z9)))))]) hwr)
      · refine aw_ild4 X dX7_scene_43 rfl ?_
        refine aw_iconst X (5) dX7_scene_45 (by decide) rfl ?_
        refine aw_bipush X (90) dX7_scene_46 (by decide) rfl ?_
        refine aw_callS X dX7_scene_48 rfl (k_X7_is X.1 _ _ _) cmX7_is ml_X7_42 rfl rfl (Nat.le_of_ble_eq_true rfl) ⟨Nat.le_of_ble_eq_true rfl, Nat.le_of_ble_eq_true rfl⟩ (aw_rs ?_)
        refine aw_if_eq (n2 := 74) X dX7_scene_51 rfl rfl (fun c51 => ?_) (fun c51 => ?_)
        · refine aw_ald0 X dX7_scene_74 rfl ?_
          refine aw_iconst X (1) dX7_scene_75 (by decide) rfl ?_
          refine aw_callV X dX7_scene_76 rfl (k_X7_refuse X.1 htg w1 1) cmX7_refuse ml_X7_93 rfl hmo rfl rfl (Nat.le_of_ble_eq_true rfl) ⟨Nat.le_of_ble_eq_true rfl, Nat.le_of_ble_eq_true rfl⟩ (fun r h2 hq hf => ?_)
          obtain ⟨rfl, hwr⟩ := hq
          exact aw_iret X hret rfl dX7_scene_79 (PoM.mk (k := 1) (σ2 := σ) (by unfold sp_scene; rw [if_pos (Or.inr (Or.inr (Or.inr (Or.inl (bI_n c51)))))]) hwr)
        · refine aw_ald0 X dX7_scene_54 rfl ?_
          refine aw_ild5 X dX7_scene_55 rfl ?_
          refine aw_ild3 X dX7_scene_57 rfl ?_
          refine aw_callV X dX7_scene_58 rfl (k_X7_isOf X.1 w1 v9 z) cmX7_isOf ml_X7_105 rfl hmo rfl rfl (Nat.le_of_ble_eq_true rfl) ⟨Nat.le_of_ble_eq_true rfl, Nat.le_of_ble_eq_true rfl⟩ (aw_rs ?_)
          refine aw_if_eq (n2 := 74) X dX7_scene_61 rfl rfl (fun c61 => ?_) (fun c61 => ?_)
          · refine aw_ald0 X dX7_scene_74 rfl ?_
            refine aw_iconst X (1) dX7_scene_75 (by decide) rfl ?_
            refine aw_callV X dX7_scene_76 rfl (k_X7_refuse X.1 htg w1 1) cmX7_refuse ml_X7_93 rfl hmo rfl rfl (Nat.le_of_ble_eq_true rfl) ⟨Nat.le_of_ble_eq_true rfl, Nat.le_of_ble_eq_true rfl⟩ (fun r h2 hq hf => ?_)
            obtain ⟨rfl, hwr⟩ := hq
            exact aw_iret X hret rfl dX7_scene_79 (PoM.mk (k := 1) (σ2 := σ) (by unfold sp_scene; rw [if_pos (Or.inr (Or.inr (Or.inr (Or.inr (Or.inl (fun z9 => bI_n c61 ((isOf_iff hn8 ((cast_is hn8).mp (bI_y c40))).mpr z9)))))))]) hwr)
          · refine aw_ald0 X dX7_scene_64 rfl ?_
            refine aw_ild6 X dX7_scene_65 rfl ?_
            refine aw_ild3 X dX7_scene_67 rfl ?_
            refine aw_callV X dX7_scene_68 rfl (k_X7_isOf X.1 w1 w9 z) cmX7_isOf ml_X7_105 rfl hmo rfl rfl (Nat.le_of_ble_eq_true rfl) ⟨Nat.le_of_ble_eq_true rfl, Nat.le_of_ble_eq_true rfl⟩ (aw_rs ?_)
            refine aw_if_ne (n2 := 80) X dX7_scene_71 rfl rfl (fun c71 => ?_) (fun c71 => ?_)
            · refine aw_ald0 X dX7_scene_80 rfl ?_
              refine aw_get X fd_X7_19 dX7_scene_81 rfl hmo rfl ?_
              refine aw_callV X dX7_scene_84 rfl (k_size X.1 hls) cmJx4a65c_size_8abf5 ml_X7_38 rfl hls.1 rfl rfl (Nat.le_of_ble_eq_true rfl) ⟨Nat.le_of_ble_eq_true rfl, Nat.le_of_ble_eq_true rfl⟩ (aw_rs ?_)
              refine aw_bipush X (10) dX7_scene_87 (by decide) rfl ?_
              refine aw_icmp_ne (n2 := 98) X dX7_scene_89 rfl rfl (fun c89 => ?_) (fun c89 => ?_)
              · have hn : σ.ns < 10 := Nat.lt_of_le_of_ne hn10 (fun q => c89 (by rw [q]; rfl))
                refine aw_bipush X (6) dX7_scene_98 (by decide) rfl ?_
                refine aw_newi X dX7_scene_100 rfl (show (6 : Int32) = nI 6 by decide) (by decide) ac_int (fun q100 hq100 => ?_)
                refine aw_dup X dX7_scene_102 rfl rfl ?_
                refine aw_iconst X (0) dX7_scene_103 (by decide) rfl ?_
                refine aw_ild1 X dX7_scene_104 rfl ?_
                refine aw_iast X (0) dX7_scene_105 rfl htg hu_s rfl (by decide) (by decide) ?_
                rw [hu_hu]
                refine aw_dup X dX7_scene_106 rfl rfl ?_
                refine aw_iconst X (1) dX7_scene_107 (by decide) rfl ?_
                refine aw_ild2 X dX7_scene_108 rfl ?_
                refine aw_iast X (1) dX7_scene_109 rfl htg hu_s rfl (by decide) (by decide) ?_
                rw [hu_hu]
                refine aw_dup X dX7_scene_110 rfl rfl ?_
                refine aw_iconst X (2) dX7_scene_111 (by decide) rfl ?_
                refine aw_ild3 X dX7_scene_112 rfl ?_
                refine aw_iast X (2) dX7_scene_113 rfl htg hu_s rfl (by decide) (by decide) ?_
                rw [hu_hu]
                refine aw_dup X dX7_scene_114 rfl rfl ?_
                refine aw_iconst X (3) dX7_scene_115 (by decide) rfl ?_
                refine aw_ild4 X dX7_scene_116 rfl ?_
                refine aw_iast X (3) dX7_scene_118 rfl htg hu_s rfl (by decide) (by decide) ?_
                rw [hu_hu]
                refine aw_dup X dX7_scene_119 rfl rfl ?_
                refine aw_iconst X (4) dX7_scene_120 (by decide) rfl ?_
                refine aw_ild5 X dX7_scene_121 rfl ?_
                refine aw_iast X (4) dX7_scene_123 rfl htg hu_s rfl (by decide) (by decide) ?_
                rw [hu_hu]
                refine aw_dup X dX7_scene_124 rfl rfl ?_
                refine aw_iconst X (5) dX7_scene_125 (by decide) rfl ?_
                refine aw_ild6 X dX7_scene_126 rfl ?_
                refine aw_iast X (5) dX7_scene_128 rfl htg hu_s rfl (by decide) (by decide) ?_
                rw [hu_hu]
                have nq : (∀ i, i < σ.np → A.pa i ≠ q100) ∧ (∀ i, i < σ.ns → A.sa i ≠ q100) ∧ ∀ i, i < σ.nf → A.fa i ≠ q100 := ⟨fun i hi => nn_ne (hP i hi).2 hq100, fun i hi => nn_ne (hS i hi).2 hq100, fun i hi => nn_ne (hF i hi).2 hq100⟩
                refine aw_genP (Pr := fun h3 => MoW G h3 tg mo A 0 sm σ ∧ h3 q100 = some (tg, oRow 6 (r6 x y z u v9 w9))) ⟨w1.ext (fun a c e => hu_k hq100 e), hu_s⟩ (fun hB wz => ?_)
                obtain ⟨wB, hqB⟩ := wz
                clear hmo hlp hls hlf hP hS hF hdd
                obtain ⟨hmo, ⟨hlp, hls, hlf⟩, ⟨hP, hS, hF⟩, -, hdd⟩ := id wB
                refine aw_ast7 X dX7_scene_129 rfl (by decide) rfl ?_
                refine aw_ald0 X dX7_scene_131 rfl ?_
                refine aw_get X fd_X7_19 dX7_scene_132 rfl hmo rfl ?_
                refine aw_ald7 X dX7_scene_135 rfl ?_
                have hqL : q100 ≠ A.Ls := kk_ne hqB hls.1 (show (100 : Nat) ≠ 1 by decide)
                refine aw_callV X dX7_scene_137 rfl (k_ladd X.1 htg hls (by omega) (fun j hj => ⟨A.sa j, tg, _, (hS j hj).1, (hS j hj).2, ob_row⟩) hqB ob_row hqL) cmJx4a65c_add_9ea2d ml_X7_97 rfl hls.1 rfl rfl (Nat.le_of_ble_eq_true rfl) ⟨Nat.le_of_ble_eq_true rfl, Nat.le_of_ble_eq_true rfl⟩ (fun r h2 hq hf => ?_)
                obtain ⟨rfl, ed2, cap2, g2, md2, hl2, hc2, hg2, hgn, hed, hfr⟩ := hq
                have w2 := wB.addS hqB nq hn hl2 hc2 hg2 hgn hed hfr
                refine aw_pop X dX7_scene_140 rfl rfl ?_
                refine aw_ald0 X dX7_scene_141 rfl ?_
                refine aw_get X fd_X7_19 dX7_scene_142 rfl w2.1 rfl ?_
                refine aw_callV X dX7_scene_145 rfl (k_size X.1 w2.2.1.2.1) cmJx4a65c_size_8abf5 ml_X7_38 rfl w2.2.1.2.1.1 rfl rfl (Nat.le_of_ble_eq_true rfl) ⟨Nat.le_of_ble_eq_true rfl, Nat.le_of_ble_eq_true rfl⟩ (aw_rs ?_)
                refine aw_iconst X (1) dX7_scene_148 (by decide) rfl ?_
                refine aw_isub X dX7_scene_149 rfl ?_
                exact aw_iret X hret rfl dX7_scene_150 (PoM.mk (k := 0) (σ2 := σ.wS (σ.ns + 1) (upF σ.S σ.ns (r6 x y z u v9 w9))) (by unfold sp_scene; rw [if_neg (fun q => q.elim (isY (bI_y c12)) (fun q => q.elim (isY (bI_y c21)) (fun q => q.elim (fun z9 => z9 ((cast_is hn8).mp (bI_y c40))) (fun q => q.elim (fun z9 => z9 (bI_y c51)) (fun q => q.elim (fun z9 => z9 ((isOf_iff hn8 ((cast_is hn8).mp (bI_y c40))).mp (bI_y c61))) (fun z9 => z9 ((isOf_iff hn8 ((cast_is hn8).mp (bI_y c40))).mp (bI_y c71)))))))), if_neg (fun q => q hn)]; show _ = (0, nI (σ.ns + 1) - 1, _); rw [← nI_1, Int32.add_sub_cancel]) w2)
              · refine aw_ald0 X dX7_scene_92 rfl ?_
                refine aw_iconst X (2) dX7_scene_93 (by decide) rfl ?_
                refine aw_callV X dX7_scene_94 rfl (k_X7_refuse X.1 htg w1 2) cmX7_refuse ml_X7_93 rfl hmo rfl rfl (Nat.le_of_ble_eq_true rfl) ⟨Nat.le_of_ble_eq_true rfl, Nat.le_of_ble_eq_true rfl⟩ (fun r h2 hq hf => ?_)
                obtain ⟨rfl, hwr⟩ := hq
                exact aw_iret X hret rfl dX7_scene_97 (PoM.mk (k := 2) (σ2 := σ) (by unfold sp_scene; rw [if_neg (fun q => q.elim (isY (bI_y c12)) (fun q => q.elim (isY (bI_y c21)) (fun q => q.elim (fun z9 => z9 ((cast_is hn8).mp (bI_y c40))) (fun q => q.elim (fun z9 => z9 (bI_y c51)) (fun q => q.elim (fun z9 => z9 ((isOf_iff hn8 ((cast_is hn8).mp (bI_y c40))).mp (bI_y c61))) (fun z9 => z9 ((isOf_iff hn8 ((cast_is hn8).mp (bI_y c40))).mp (bI_y c71)))))))), if_pos (fun q => absurd (show σ.ns = 10 from (nI_eq (b := 10) (by omega) (by decide)).mp c89) (Nat.ne_of_lt q))]) hwr)
            · refine aw_ald0 X dX7_scene_74 rfl ?_
              refine aw_iconst X (1) dX7_scene_75 (by decide) rfl ?_
              refine aw_callV X dX7_scene_76 rfl (k_X7_refuse X.1 htg w1 1) cmX7_refuse ml_X7_93 rfl hmo rfl rfl (Nat.le_of_ble_eq_true rfl) ⟨Nat.le_of_ble_eq_true rfl, Nat.le_of_ble_eq_true rfl⟩ (fun r h2 hq hf => ?_)
              obtain ⟨rfl, hwr⟩ := hq
              exact aw_iret X hret rfl dX7_scene_79 (PoM.mk (k := 1) (σ2 := σ) (by unfold sp_scene; rw [if_pos (Or.inr (Or.inr (Or.inr (Or.inr (Or.inr (fun z9 => bI_n c71 ((isOf_iff hn8 ((cast_is hn8).mp (bI_y c40))).mpr z9)))))))]) hwr)

set_option maxHeartbeats 4000000 in
set_option maxRecDepth 100000 in
theorem k_X7_length {l : Launch} {s0 : State} {a0 : Array Value} {G : GG} (X : CX l s0 a0 G) {h : AH} {tg mo : Nat} {A : KA} {t : Int32} {sm : Int64} {σ : NS} (htg : tg ≠ 0) (w : MoW G h tg mo A t sm σ) (hv : IV σ) (x : Int32) (y : Int32)  : Con l s0 G yX7_length cX7_length 5 (some .int) 6 11 40 tg [.ref mo, .int x, .int y] h (PoM G tg mo (sp_length σ x y)) := by
  refine Con.of X (by decide +kernel) [some (.ref mo), some (.int x), some (.int y), none, none] rfl (Nat.le_of_ble_eq_true rfl) (fun p e s m below meth c X hnm hret => ?_)
  have w0 := w
  obtain ⟨hmo, ⟨hlp, hls, hlf⟩, ⟨hP, hS, hF⟩, ⟨hn8, hn10, hn12⟩, hdd⟩ := id w
  refine aw_ald0 X dX7_length_0 rfl ?_
  refine aw_iconst X (0) dX7_length_1 (by decide) rfl ?_
  refine aw_put X fd_X7_35 fw_X7_0 dX7_length_2 rfl htg hmo rfl rfl (Nat.le_of_ble_eq_true rfl) ?_
  refine aw_genP (Pr := fun h3 => MoW G h3 tg mo A 0 sm σ) (w0.obj 0 sm σ.v) (fun h1 w1 => ?_)
  clear hmo hlp hls hlf hP hS hF hdd
  obtain ⟨hmo, ⟨hlp, hls, hlf⟩, ⟨hP, hS, hF⟩, -, hdd⟩ := id w1
  refine aw_ald0 X dX7_length_5 rfl ?_
  refine aw_ild1 X dX7_length_6 rfl ?_
  refine aw_callV X dX7_length_7 rfl (k_X7_isScene X.1 w1 _) cmX7_isScene ml_X7_109 rfl hmo rfl rfl (Nat.le_of_ble_eq_true rfl) ⟨Nat.le_of_ble_eq_true rfl, Nat.le_of_ble_eq_true rfl⟩ (aw_rs ?_)
  refine aw_if_ne (n2 := 19) X dX7_length_10 rfl rfl (fun c10 => ?_) (fun c10 => ?_)
  · refine aw_ild2 X dX7_length_19 rfl ?_
    refine aw_iconst X (5) dX7_length_20 (by decide) rfl ?_
    refine aw_bipush X (90) dX7_length_21 (by decide) rfl ?_
    refine aw_callS X dX7_length_23 rfl (k_X7_is X.1 _ _ _) cmX7_is ml_X7_42 rfl rfl (Nat.le_of_ble_eq_true rfl) ⟨Nat.le_of_ble_eq_true rfl, Nat.le_of_ble_eq_true rfl⟩ (aw_rs ?_)
    refine aw_if_ne (n2 := 35) X dX7_length_26 rfl rfl (fun c26 => ?_) (fun c26 => ?_)
    · obtain ⟨hxk, hkf⟩ := cat_in (bI_y c10) (show σ.ns < 2 ^ 31 by omega)
      have hrow := (hS _ hkf).2
      refine aw_ald0 X dX7_length_35 rfl ?_
      refine aw_get X fd_X7_19 dX7_length_36 rfl hmo rfl ?_
      refine aw_ild1 X dX7_length_39 rfl ?_
      refine aw_callV X dX7_length_40 rfl (k_lget X.1 hls hxk hkf (hS _ hkf).1) cmJx4a65c_get_915e3 ml_X7_48 rfl hls.1 rfl rfl (Nat.le_of_ble_eq_true rfl) ⟨Nat.le_of_ble_eq_true rfl, Nat.le_of_ble_eq_true rfl⟩ (aw_rs ?_)
      refine aw_castA X dX7_length_43 rfl (kd := 0) (by decide) cc_X7_52 hrow ?_
      refine aw_ast3 X dX7_length_46 rfl (by decide) rfl ?_
      refine aw_ald0 X dX7_length_47 rfl ?_
      refine aw_ald0 X dX7_length_48 rfl ?_
      refine aw_get X fd_X7_19 dX7_length_49 rfl hmo rfl ?_
      refine aw_callV X dX7_length_52 rfl (k_X7_plot X.1 htg w1 hls.lr hS hn10 hv.k5 hv.dis) cmX7_plot ml_X7_68 rfl hmo rfl rfl (Nat.le_of_ble_eq_true rfl) ⟨Nat.le_of_ble_eq_true rfl, Nat.le_of_ble_eq_true rfl⟩ (fun r h2 hq hf => ?_)
      obtain ⟨q, r, rfl, htb⟩ := hq
      have w2 := w1.ext htb.1
      refine aw_ild1 X dX7_length_55 rfl ?_
      refine aw_aald2 X (iN x) dX7_length_56 rfl htb.2.1 hxk hkf (by omega) (if_pos hkf) ?_
      refine aw_iconst X (0) dX7_length_57 (by decide) rfl ?_
      refine aw_iald X (0) dX7_length_58 rfl (htb.2.2 _ hkf) rfl (by decide) (by decide) ?_
      refine aw_ald3 X dX7_length_59 rfl ?_
      refine aw_iconst X (3) dX7_length_60 (by decide) rfl ?_
      refine aw_iald X (3) dX7_length_61 rfl (htb.1 _ _ hrow) rfl (by decide) (by decide) ?_
      refine aw_iadd X dX7_length_62 rfl ?_
      refine aw_ald0 X dX7_length_63 rfl ?_
      refine aw_get X fd_X7_86 dX7_length_64 rfl w2.1 rfl ?_
      refine aw_icmp_gt (n2 := 76) X dX7_length_67 rfl rfl (fun c67 => ?_) (fun c67 => ?_)
      · refine aw_ald3 X dX7_length_76 rfl ?_
        refine aw_iconst X (3) dX7_length_77 (by decide) rfl ?_
        refine aw_iald X (3) dX7_length_78 rfl (htb.1 _ _ hrow) rfl (by decide) (by decide) ?_
        refine aw_ist4 X dX7_length_79 rfl (by decide) rfl ?_
        refine aw_ald3 X dX7_length_81 rfl ?_
        refine aw_iconst X (3) dX7_length_82 (by decide) rfl ?_
        refine aw_ild2 X dX7_length_83 rfl ?_
        refine aw_iast X (3) dX7_length_84 rfl htg (htb.1 _ _ hrow) rfl (by decide) (by decide) ?_
        refine aw_ild4 X dX7_length_85 rfl ?_
        exact aw_iret X hret rfl dX7_length_87 (PoM.mk (k := 0) (σ2 := σ.wS σ.ns (upF σ.S (iN x) (upd (σ.S (iN x)) 3 y))) (by unfold sp_length; rw [if_neg (fun q => q (bI_y c10)), if_neg (fun q => q (bI_y c26)), if_neg (fun q => q c67)]) (w2.scn hkf (upd (σ.S (iN x)) 3 y)))
      · refine aw_ald0 X dX7_length_70 rfl ?_
        refine aw_iconst X (3) dX7_length_71 (by decide) rfl ?_
        refine aw_callV X dX7_length_72 rfl (k_X7_refuse X.1 htg w2 3) cmX7_refuse ml_X7_93 rfl w2.1 rfl rfl (Nat.le_of_ble_eq_true rfl) ⟨Nat.le_of_ble_eq_true rfl, Nat.le_of_ble_eq_true rfl⟩ (fun r h2 hq hf => ?_)
        obtain ⟨rfl, hwr⟩ := hq
        exact aw_iret X hret rfl dX7_length_75 (PoM.mk (k := 3) (σ2 := σ) (by unfold sp_length; rw [if_neg (fun q => q (bI_y c10)), if_neg (fun q => q (bI_y c26)), if_pos (show ¬ σ.mi < rB σ.S (iN x) + σ.S (iN x) 3 from c67)]) hwr)
    · refine aw_ald0 X dX7_length_29 rfl ?_
      refine aw_iconst X (2) dX7_length_30 (by decide) rfl ?_
      refine aw_callV X dX7_length_31 rfl (k_X7_refuse X.1 htg w1 2) cmX7_refuse ml_X7_93 rfl hmo rfl rfl (Nat.le_of_ble_eq_true rfl) ⟨Nat.le_of_ble_eq_true rfl, Nat.le_of_ble_eq_true rfl⟩ (fun r h2 hq hf => ?_)
      obtain ⟨rfl, hwr⟩ := hq
      exact aw_iret X hret rfl dX7_length_34 (PoM.mk (k := 2) (σ2 := σ) (by unfold sp_length; rw [if_neg (fun q => q (bI_y c10)), if_pos (bI_n c26)]) hwr)
  · refine aw_ald0 X dX7_length_13 rfl ?_
    refine aw_iconst X (1) dX7_length_14 (by decide) rfl ?_
    refine aw_callV X dX7_length_15 rfl (k_X7_refuse X.1 htg w1 1) cmX7_refuse ml_X7_93 rfl hmo rfl rfl (Nat.le_of_ble_eq_true rfl) ⟨Nat.le_of_ble_eq_true rfl, Nat.le_of_ble_eq_true rfl⟩ (fun r h2 hq hf => ?_)
    obtain ⟨rfl, hwr⟩ := hq
    exact aw_iret X hret rfl dX7_length_18 (PoM.mk (k := 1) (σ2 := σ) (by unfold sp_length; rw [if_pos (bI_n c10)]) hwr)

theorem swp_g {n i j : Nat} {g : Nat → Option Nat} {fa : Nat → Nat} (hg : ∀ k, k < n → g k = some (fa k)) (hi : i < n) (hj : j < n) : ∀ k, k < n → va_up (va_up g i (some (fa j))) j (some (fa i)) k = g (sw i j k) := by
  intro k hk
  unfold sw
  by_cases c1 : k = j
  · subst c1
    rw [va_up_self]
    by_cases c2 : k = i
    · rw [if_pos c2, hg k hk, c2]
    · rw [if_neg c2, if_pos rfl, hg i hi]
  · rw [va_up_ne _ _ c1]
    by_cases c2 : k = i
    · rw [if_pos c2, c2, va_up_self, hg j hj]
    · rw [va_up_ne _ _ c2, if_neg c2, if_neg c1]
theorem sw_inj {i j a b : Nat} (e : sw i j a = sw i j b) : a = b := by
  have h := congrArg (sw i j) e
  rwa [sw_sw, sw_sw] at h
theorem MoW.swp {G : GG} {h : AH} {tg mo : Nat} {A : KA} {t : Int32} {sm : Int64} {σ : NS} (w : MoW G h tg mo A t sm σ) {i j : Nat} (hi : i < σ.ns) (hj : j < σ.ns) : MoW G (hu h A.eds (tg, oArr A.caps (va_up (va_up A.gs i (some (A.sa j))) j (some (A.sa i))))) tg mo (A.wS A.Ls A.eds A.caps A.mds (va_up (va_up A.gs i (some (A.sa j))) j (some (A.sa i))) (fun k => A.sa (sw i j k))) t sm (swS σ i j) := by
  obtain ⟨h1, ⟨a1, a2, a3⟩, ⟨b1, b2, b3⟩, hc, ⟨d1, d2, d3, d4, d5⟩, ⟨e1, e2, e3⟩, ⟨f1, f2, f3⟩⟩ := w
  have hc9 : A.caps ≠ 0 := by have := a2.2.2.1; omega
  have hE := (a2.cap0 hc9).2
  have k1 : ∀ a c, h a = some c → kd c.2 ≠ 103 → hu h A.eds (tg, oArr A.caps (va_up (va_up A.gs i (some (A.sa j))) j (some (A.sa i)))) a = some c := fun a c e m => (hu_n (kk_ne e hE m)).trans e
  have k2 : ∀ a c, h a = some c → kd c.2 = 100 → hu h A.eds (tg, oArr A.caps (va_up (va_up A.gs i (some (A.sa j))) j (some (A.sa i)))) a = some c := fun a c e m => k1 a c e (by omega)
  have ot : ∀ {L ed cap n : Nat} {g : Nat → Option Nat} {md : Int32}, LI G h tg L n g ed cap md → (cap ≠ 0 → ed ≠ A.eds) → LI G (hu h A.eds (tg, oArr A.caps (va_up (va_up A.gs i (some (A.sa j))) j (some (A.sa i))))) tg L n g ed cap md := fun {L ed cap n g md} x n2 => x.kept (hu_n (kk_ne x.1 hE (show (1 : Nat) ≠ 103 by decide))) (hu_n (x.ne a2 hc9 n2))
  exact ⟨k1 _ _ h1 (show (9 : Nat) ≠ 103 by decide), ⟨ot a1 (fun z => f1 z hc9), ⟨k1 _ _ a2.1 (show (1 : Nat) ≠ 103 by decide), a2.2.1, a2.2.2.1, Or.inr ⟨(a2.cap0 hc9).1, hu_s⟩⟩, ot a3 (fun z => (f3 hc9 z).symm)⟩, ⟨b1.keptK k2, b2.perm (fun k hk => sw_lt hi hj hk) (swp_g (fun k hk => (b2 k hk).1) hi hj) hE, b3.keptK k2⟩, hc, ⟨fun a b ha hb e => sw_inj (d1 _ _ (sw_lt hi hj ha) (sw_lt hi hj hb) e), d2, fun a b ha hb => d3 a _ ha (sw_lt hi hj hb), d4, fun a b ha hb => d5 _ b (sw_lt hi hj ha) hb⟩, ⟨e1, e2, e3⟩, ⟨f1, f2, f3⟩⟩

set_option maxHeartbeats 4000000 in
set_option maxRecDepth 100000 in
theorem k_X7_swap {l : Launch} {s0 : State} {a0 : Array Value} {G : GG} (X : CX l s0 a0 G) {h : AH} {tg mo : Nat} {A : KA} {t : Int32} {sm : Int64} {σ : NS} (htg : tg ≠ 0) (w : MoW G h tg mo A t sm σ) (hv : IV σ) (x : Int32) (y : Int32)  : Con l s0 G yX7_swap cX7_swap 3 (some .int) 7 11 40 tg [.ref mo, .int x, .int y] h (PoM G tg mo (sp_swap σ x y)) := by
  refine Con.of X (by decide +kernel) [some (.ref mo), some (.int x), some (.int y)] rfl (Nat.le_of_ble_eq_true rfl) (fun p e s m below meth c X hnm hret => ?_)
  have w0 := w
  obtain ⟨hmo, ⟨hlp, hls, hlf⟩, ⟨hP, hS, hF⟩, ⟨hn8, hn10, hn12⟩, hdd⟩ := id w
  refine aw_ald0 X dX7_swap_0 rfl ?_
  refine aw_iconst X (0) dX7_swap_1 (by decide) rfl ?_
  refine aw_put X fd_X7_35 fw_X7_0 dX7_swap_2 rfl htg hmo rfl rfl (Nat.le_of_ble_eq_true rfl) ?_
  refine aw_genP (Pr := fun h3 => MoW G h3 tg mo A 0 sm σ) (w0.obj 0 sm σ.v) (fun h1 w1 => ?_)
  clear hmo hlp hls hlf hP hS hF hdd
  obtain ⟨hmo, ⟨hlp, hls, hlf⟩, ⟨hP, hS, hF⟩, -, hdd⟩ := id w1
  refine aw_ald0 X dX7_swap_5 rfl ?_
  refine aw_ild1 X dX7_swap_6 rfl ?_
  refine aw_callV X dX7_swap_7 rfl (k_X7_isScene X.1 w1 _) cmX7_isScene ml_X7_109 rfl hmo rfl rfl (Nat.le_of_ble_eq_true rfl) ⟨Nat.le_of_ble_eq_true rfl, Nat.le_of_ble_eq_true rfl⟩ (aw_rs ?_)
  refine aw_if_eq (n2 := 21) X dX7_swap_10 rfl rfl (fun c10 => ?_) (fun c10 => ?_)
  · refine aw_ald0 X dX7_swap_21 rfl ?_
    refine aw_iconst X (1) dX7_swap_22 (by decide) rfl ?_
    refine aw_callV X dX7_swap_23 rfl (k_X7_refuse X.1 htg w1 1) cmX7_refuse ml_X7_93 rfl hmo rfl rfl (Nat.le_of_ble_eq_true rfl) ⟨Nat.le_of_ble_eq_true rfl, Nat.le_of_ble_eq_true rfl⟩ (fun r h2 hq hf => ?_)
    obtain ⟨rfl, hwr⟩ := hq
    exact aw_iret X hret rfl dX7_swap_26 (PoM.mk (k := 1) (σ2 := σ) (by unfold sp_swap; rw [if_pos (Or.inl (bI_n c10))]) hwr)
  · refine aw_ald0 X dX7_swap_13 rfl ?_
    refine aw_ild2 X dX7_swap_14 rfl ?_
    refine aw_callV X dX7_swap_15 rfl (k_X7_isScene X.1 w1 _) cmX7_isScene ml_X7_109 rfl hmo rfl rfl (Nat.le_of_ble_eq_true rfl) ⟨Nat.le_of_ble_eq_true rfl, Nat.le_of_ble_eq_true rfl⟩ (aw_rs ?_)
    refine aw_if_ne (n2 := 27) X dX7_swap_18 rfl rfl (fun c18 => ?_) (fun c18 => ?_)
    · refine aw_ald0 X dX7_swap_27 rfl ?_
      refine aw_get X fd_X7_86 dX7_swap_28 rfl hmo rfl ?_
      refine aw_if_le (n2 := 40) X dX7_swap_31 rfl rfl (fun c31 => ?_) (fun c31 => ?_)
      · obtain ⟨hxk, hxl⟩ := cat_in (bI_y c10) (show σ.ns < 2 ^ 31 by omega)
        obtain ⟨hyk, hyl⟩ := cat_in (bI_y c18) (show σ.ns < 2 ^ 31 by omega)
        have hc9 : A.caps ≠ 0 := by have := hls.2.2.1; omega
        have hE := (hls.cap0 hc9).2
        have hsv := hv.sv.perm (s := sw (iN x) (iN y)) (fun k hk => sw_lt hxl hyl hk)
        refine aw_ald0 X dX7_swap_40 rfl ?_
        refine aw_get X fd_X7_19 dX7_swap_41 rfl hmo rfl ?_
        refine aw_ild1 X dX7_swap_44 rfl ?_
        refine aw_ild2 X dX7_swap_45 rfl ?_
        refine aw_callS X dX7_swap_46 rfl (k_X7_exchange X.1 htg hls.lr hE hS hxk hyk hxl hyl) cmX7_exchange ml_X7_112 rfl rfl (Nat.le_of_ble_eq_true rfl) ⟨Nat.le_of_ble_eq_true rfl, Nat.le_of_ble_eq_true rfl⟩ (aw_rv ?_)
        refine aw_genP (Pr := fun h3 => ∃ A3 σz, σz = swS σ (iN x) (iN y) ∧ MoW G h3 tg mo A3 0 sm σz) ⟨_, _, rfl, w1.swp hxl hyl⟩ (fun h3 wz => ?_)
        obtain ⟨A3, σ3, hσ3, w3⟩ := wz
        have en3 : σ3.ns = σ.ns := by rw [hσ3]; rfl
        have ep3 : σ3.np = σ.np := by rw [hσ3]; rfl
        have eP3 : σ3.P = σ.P := by rw [hσ3]; rfl
        have hv3 : IV σ3 := by rw [hσ3]; exact hv.perm (fun k hk => sw_lt hxl hyl hk)
        clear hmo hlp hls hlf hP hS hF hdd
        obtain ⟨hmo, ⟨hlp, hls, hlf⟩, ⟨hP, hS, hF⟩, -, hdd⟩ := id w3
        refine aw_ald0 X dX7_swap_49 rfl ?_
        refine aw_ald0 X dX7_swap_50 rfl ?_
        refine aw_get X fd_X7_19 dX7_swap_51 rfl hmo rfl ?_
        refine aw_callV X dX7_swap_54 rfl (k_X7_breaches X.1 htg w3 hls.lr hS (by omega) hv3.k5 hv3.dis) cmX7_breaches ml_X7_116 rfl hmo rfl rfl (Nat.le_of_ble_eq_true rfl) ⟨Nat.le_of_ble_eq_true rfl, Nat.le_of_ble_eq_true rfl⟩ (fun r h2 hq hf => ?_)
        obtain ⟨rfl, hxA⟩ := hq
        rw [mN_eq hv3.1.1 hv3.sv, ← cbS_mcb]
        exact aw_iret X hret rfl dX7_swap_57 (PoM.mk (k := 0) (σ2 := σ3) (by unfold sp_swap; rw [if_neg (fun q => q.elim (fun z9 => z9 (bI_y c10)) (fun z9 => z9 (bI_y c18))), if_neg (fun q => q c31), ← hσ3, en3, ep3, eP3]) (w3.ext hxA))
      · refine aw_ald0 X dX7_swap_34 rfl ?_
        refine aw_iconst X (2) dX7_swap_35 (by decide) rfl ?_
        refine aw_callV X dX7_swap_36 rfl (k_X7_refuse X.1 htg w1 2) cmX7_refuse ml_X7_93 rfl hmo rfl rfl (Nat.le_of_ble_eq_true rfl) ⟨Nat.le_of_ble_eq_true rfl, Nat.le_of_ble_eq_true rfl⟩ (fun r h2 hq hf => ?_)
        obtain ⟨rfl, hwr⟩ := hq
        exact aw_iret X hret rfl dX7_swap_39 (PoM.mk (k := 2) (σ2 := σ) (by unfold sp_swap; rw [if_neg (fun q => q.elim (fun z9 => z9 (bI_y c10)) (fun z9 => z9 (bI_y c18))), if_pos c31]) hwr)
    · refine aw_ald0 X dX7_swap_21 rfl ?_
      refine aw_iconst X (1) dX7_swap_22 (by decide) rfl ?_
      refine aw_callV X dX7_swap_23 rfl (k_X7_refuse X.1 htg w1 1) cmX7_refuse ml_X7_93 rfl hmo rfl rfl (Nat.le_of_ble_eq_true rfl) ⟨Nat.le_of_ble_eq_true rfl, Nat.le_of_ble_eq_true rfl⟩ (fun r h2 hq hf => ?_)
      obtain ⟨rfl, hwr⟩ := hq
      exact aw_iret X hret rfl dX7_swap_26 (PoM.mk (k := 1) (σ2 := σ) (by unfold sp_swap; rw [if_pos (Or.inr (bI_n c18))]) hwr)
