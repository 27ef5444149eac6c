/-! THE MODEL'S SMALL METHODS -/
/-- the answer v; nothing that was is lost or changed -/
def RE (v : Value) (h : AH) : Option Value → AH → Prop := fun r h2 => some v = r ∧ ∀ a c, h a = some c → h2 a = some c
theorem bI_congr {c d : Prop} [Decidable c] [Decidable d] (e : c ↔ d) : bI c = bI d := by
  by_cases q : c
  · rw [bI_t q, bI_t (e.mp q)]
  · rw [bI_f q, bI_f (fun z => q (e.mpr z))]
theorem is_n {x : Int32} {n : Nat} (hn : n ≤ 12) : (0 ≤ x ∧ x ≤ nI n - 1) ↔ (0 ≤ x ∧ x < nI n) := by
  have e1 : (nI n - 1).toInt = (n : Int) - 1 := pk_sub_toInt (a := n) (b := 1) (by omega) (by decide)
  have e2 : (nI n).toInt = n := by unfold nI; rw [Int32.toInt_ofNat_of_lt (by omega)]
  rw [Int32.le_iff_toInt_le (x := x), Int32.lt_iff_toInt_lt, e1, e2]
  constructor <;> (intro q; exact ⟨q.1, by omega⟩)
abbrev reachM (hd pl : Int32) : Prop := if hd = 2 then 0 ≤ pl ∧ pl ≤ 5 else 4 ≤ pl ∧ pl ≤ 9

set_option maxHeartbeats 4000000 in
set_option maxRecDepth 100000 in
theorem k_X7_is {l : Launch} {s0 : State} {a0 : Array Value} {G : GG} (X : CX l s0 a0 G) {h : AH} {tg : Nat} (v a b : Int32)  : Con l s0 G yX7_is cX7_is 3 (some .boolean) 0 0 0 tg [.int v, .int a, .int b] h (RS (.int (bI (a ≤ v ∧ v ≤ b))) h) := by
  refine Con.of X (by decide +kernel) [some (.int v), some (.int a), some (.int b)] rfl (Nat.le_of_ble_eq_true rfl) (fun p e s m below meth c X hnm hret => ?_)
  refine aw_ild0 X dX7_is_0 rfl ?_
  refine aw_ild1 X dX7_is_1 rfl ?_
  refine aw_icmp_lt (n2 := 14) X dX7_is_2 rfl rfl (fun c2 => ?_) (fun c2 => ?_)
  · refine aw_iconst X (0) dX7_is_14 (by decide) rfl ?_
    exact aw_iret X hret rfl dX7_is_15 (⟨by first | (simp_all [bI, bI_0, bI_ne, Int32.not_lt, Int32.not_le]; done) | grind [bI, bI_0, bI_ne], rfl⟩)
  · refine aw_ild0 X dX7_is_5 rfl ?_
    refine aw_ild2 X dX7_is_6 rfl ?_
    refine aw_icmp_gt (n2 := 14) X dX7_is_7 rfl rfl (fun c7 => ?_) (fun c7 => ?_)
    · refine aw_iconst X (0) dX7_is_14 (by decide) rfl ?_
      exact aw_iret X hret rfl dX7_is_15 (⟨by first | (simp_all [bI, bI_0, bI_ne, Int32.not_lt, Int32.not_le]; done) | grind [bI, bI_0, bI_ne], rfl⟩)
    · refine aw_iconst X (1) dX7_is_10 (by decide) rfl ?_
      refine aw_goto (n := 15) X dX7_is_11 rfl ?_
      exact aw_iret X hret rfl dX7_is_15 (⟨by first | (simp_all [bI, bI_0, bI_ne, Int32.not_lt, Int32.not_le]; done) | grind [bI, bI_0, bI_ne], rfl⟩)

set_option maxHeartbeats 4000000 in
set_option maxRecDepth 100000 in
theorem k_X7_reaches {l : Launch} {s0 : State} {a0 : Array Value} {G : GG} (X : CX l s0 a0 G) {h : AH} {tg : Nat} (hd pl : Int32)  : Con l s0 G yX7_reaches cX7_reaches 2 (some .boolean) 1 0 0 tg [.int hd, .int pl] h (RS (.int (bI (reachM hd pl))) h) := by
  refine Con.of X (by decide +kernel) [some (.int hd), some (.int pl)] rfl (Nat.le_of_ble_eq_true rfl) (fun p e s m below meth c X hnm hret => ?_)
  refine aw_ild0 X dX7_reaches_0 rfl ?_
  refine aw_iconst X (2) dX7_reaches_1 (by decide) rfl ?_
  refine aw_icmp_ne (n2 := 14) X dX7_reaches_2 rfl rfl (fun c2 => ?_) (fun c2 => ?_)
  · refine aw_ild1 X dX7_reaches_14 rfl ?_
    refine aw_iconst X (4) dX7_reaches_15 (by decide) rfl ?_
    refine aw_bipush X (9) dX7_reaches_16 (by decide) rfl ?_
    refine aw_callS X dX7_reaches_18 rfl (k_X7_is X.1 _ _ _) cmX7_is ml_X7_42 rfl rfl (Nat.le_of_ble_eq_true rfl) ⟨Nat.le_of_ble_eq_true rfl, Nat.le_of_ble_eq_true rfl⟩ (aw_rs ?_)
    exact aw_iret X hret bI_nar dX7_reaches_21 (⟨congrArg (fun x => some (Value.int x)) (bI_congr (iff_of_eq (if_neg c2))), rfl⟩)
  · refine aw_ild1 X dX7_reaches_5 rfl ?_
    refine aw_iconst X (0) dX7_reaches_6 (by decide) rfl ?_
    refine aw_iconst X (5) dX7_reaches_7 (by decide) rfl ?_
    refine aw_callS X dX7_reaches_8 rfl (k_X7_is X.1 _ _ _) cmX7_is ml_X7_42 rfl rfl (Nat.le_of_ble_eq_true rfl) ⟨Nat.le_of_ble_eq_true rfl, Nat.le_of_ble_eq_true rfl⟩ (aw_rs ?_)
    refine aw_goto (n := 21) X dX7_reaches_11 rfl ?_
    exact aw_iret X hret bI_nar dX7_reaches_21 (⟨congrArg (fun x => some (Value.int x)) (bI_congr (iff_of_eq (if_pos c2))), rfl⟩)

set_option maxHeartbeats 4000000 in
set_option maxRecDepth 100000 in
theorem k_X7_refuse {l : Launch} {s0 : State} {a0 : Array Value} {G : GG} (X : CX l s0 a0 G) {h : AH} {tg mo : Nat} {A : KA} {t : Int32} {sm : Int64} {σ : NS} (htg : tg ≠ 0) (w : MoW G h tg mo A t sm σ) (k : Int32)  : Con l s0 G yX7_refuse cX7_refuse 2 (some .int) 0 0 0 tg [.ref mo, .int k] h (fun r h2 => some (.int 0) = r ∧ MoW G h2 tg mo A k sm σ) := by
  refine Con.of X (by decide +kernel) [some (.ref mo), some (.int k)] rfl (Nat.le_of_ble_eq_true rfl) (fun p e s m below meth c X hnm hret => ?_)
  have w0 := w
  obtain ⟨hmo, ⟨hlp, hls, hlf⟩, ⟨hP, hS, hF⟩, ⟨hn8, hn10, hn12⟩, hdd⟩ := id w
  refine aw_ald0 X dX7_refuse_0 rfl ?_
  refine aw_ild1 X dX7_refuse_1 rfl ?_
  refine aw_put X fd_X7_35 fw_X7_0 dX7_refuse_2 rfl htg hmo rfl rfl (Nat.le_of_ble_eq_true rfl) ?_
  refine aw_iconst X (0) dX7_refuse_5 (by decide) rfl ?_
  exact aw_iret X hret rfl dX7_refuse_6 (⟨rfl, w0.obj k sm σ.v⟩)

set_option maxHeartbeats 4000000 in
set_option maxRecDepth 100000 in
theorem k_X7_isPerson {l : Launch} {s0 : State} {a0 : Array Value} {G : GG} (X : CX l s0 a0 G) {h : AH} {tg mo : Nat} {A : KA} {t : Int32} {sm : Int64} {σ : NS} (w : MoW G h tg mo A t sm σ) (x : Int32)  : Con l s0 G yX7_isPerson cX7_isPerson 2 (some .boolean) 1 0 0 tg [.ref mo, .int x] h (RS (.int (bI (0 ≤ x ∧ x < nI σ.np))) h) := by
  refine Con.of X (by decide +kernel) [some (.ref mo), some (.int x)] rfl (Nat.le_of_ble_eq_true rfl) (fun p e s m below meth c X hnm hret => ?_)
  have w0 := w
  obtain ⟨hmo, ⟨hlp, hls, hlf⟩, ⟨hP, hS, hF⟩, ⟨hn8, hn10, hn12⟩, hdd⟩ := id w
  refine aw_ild1 X dX7_isPerson_0 rfl ?_
  refine aw_iconst X (0) dX7_isPerson_1 (by decide) rfl ?_
  refine aw_ald0 X dX7_isPerson_2 rfl ?_
  refine aw_get X fd_X7_10 dX7_isPerson_3 rfl hmo rfl ?_
  refine aw_callV X dX7_isPerson_6 rfl (k_size X.1 hlp) cmJx4a65c_size_8abf5 ml_X7_38 rfl hlp.1 rfl rfl (Nat.le_of_ble_eq_true rfl) ⟨Nat.le_of_ble_eq_true rfl, Nat.le_of_ble_eq_true rfl⟩ (aw_rs ?_)
  refine aw_iconst X (1) dX7_isPerson_9 (by decide) rfl ?_
  refine aw_isub X dX7_isPerson_10 rfl ?_
  refine aw_callS X dX7_isPerson_11 rfl (k_X7_is X.1 _ _ _) cmX7_is ml_X7_42 rfl rfl (Nat.le_of_ble_eq_true rfl) ⟨Nat.le_of_ble_eq_true rfl, Nat.le_of_ble_eq_true rfl⟩ (aw_rs ?_)
  exact aw_iret X hret bI_nar dX7_isPerson_14 (⟨by rw [bI_congr (is_n (by omega))], rfl⟩)

set_option maxHeartbeats 4000000 in
set_option maxRecDepth 100000 in
theorem k_X7_isFigure {l : Launch} {s0 : State} {a0 : Array Value} {G : GG} (X : CX l s0 a0 G) {h : AH} {tg mo : Nat} {A : KA} {t : Int32} {sm : Int64} {σ : NS} (w : MoW G h tg mo A t sm σ) (x : Int32)  : Con l s0 G yX7_isFigure cX7_isFigure 2 (some .boolean) 1 0 0 tg [.ref mo, .int x] h (RS (.int (bI (0 ≤ x ∧ x < nI σ.nf))) h) := by
  refine Con.of X (by decide +kernel) [some (.ref mo), some (.int x)] rfl (Nat.le_of_ble_eq_true rfl) (fun p e s m below meth c X hnm hret => ?_)
  have w0 := w
  obtain ⟨hmo, ⟨hlp, hls, hlf⟩, ⟨hP, hS, hF⟩, ⟨hn8, hn10, hn12⟩, hdd⟩ := id w
  refine aw_ild1 X dX7_isFigure_0 rfl ?_
  refine aw_iconst X (0) dX7_isFigure_1 (by decide) rfl ?_
  refine aw_ald0 X dX7_isFigure_2 rfl ?_
  refine aw_get X fd_X7_16 dX7_isFigure_3 rfl hmo rfl ?_
  refine aw_callV X dX7_isFigure_6 rfl (k_size X.1 hlf) cmJx4a65c_size_8abf5 ml_X7_38 rfl hlf.1 rfl rfl (Nat.le_of_ble_eq_true rfl) ⟨Nat.le_of_ble_eq_true rfl, Nat.le_of_ble_eq_true rfl⟩ (aw_rs ?_)
  refine aw_iconst X (1) dX7_isFigure_9 (by decide) rfl ?_
  refine aw_isub X dX7_isFigure_10 rfl ?_
  refine aw_callS X dX7_isFigure_11 rfl (k_X7_is X.1 _ _ _) cmX7_is ml_X7_42 rfl rfl (Nat.le_of_ble_eq_true rfl) ⟨Nat.le_of_ble_eq_true rfl, Nat.le_of_ble_eq_true rfl⟩ (aw_rs ?_)
  exact aw_iret X hret bI_nar dX7_isFigure_14 (⟨by rw [bI_congr (is_n (by omega))], rfl⟩)

set_option maxHeartbeats 4000000 in
set_option maxRecDepth 100000 in
theorem k_X7_isScene {l : Launch} {s0 : State} {a0 : Array Value} {G : GG} (X : CX l s0 a0 G) {h : AH} {tg mo : Nat} {A : KA} {t : Int32} {sm : Int64} {σ : NS} (w : MoW G h tg mo A t sm σ) (x : Int32)  : Con l s0 G yX7_isScene cX7_isScene 2 (some .boolean) 1 0 0 tg [.ref mo, .int x] h (RS (.int (bI (0 ≤ x ∧ x < nI σ.ns))) h) := by
  refine Con.of X (by decide +kernel) [some (.ref mo), some (.int x)] rfl (Nat.le_of_ble_eq_true rfl) (fun p e s m below meth c X hnm hret => ?_)
  have w0 := w
  obtain ⟨hmo, ⟨hlp, hls, hlf⟩, ⟨hP, hS, hF⟩, ⟨hn8, hn10, hn12⟩, hdd⟩ := id w
  refine aw_ild1 X dX7_isScene_0 rfl ?_
  refine aw_iconst X (0) dX7_isScene_1 (by decide) rfl ?_
  refine aw_ald0 X dX7_isScene_2 rfl ?_
  refine aw_get X fd_X7_19 dX7_isScene_3 rfl hmo rfl ?_
  refine aw_callV X dX7_isScene_6 rfl (k_size X.1 hls) cmJx4a65c_size_8abf5 ml_X7_38 rfl hls.1 rfl rfl (Nat.le_of_ble_eq_true rfl) ⟨Nat.le_of_ble_eq_true rfl, Nat.le_of_ble_eq_true rfl⟩ (aw_rs ?_)
  refine aw_iconst X (1) dX7_isScene_9 (by decide) rfl ?_
  refine aw_isub X dX7_isScene_10 rfl ?_
  refine aw_callS X dX7_isScene_11 rfl (k_X7_is X.1 _ _ _) cmX7_is ml_X7_42 rfl rfl (Nat.le_of_ble_eq_true rfl) ⟨Nat.le_of_ble_eq_true rfl, Nat.le_of_ble_eq_true rfl⟩ (aw_rs ?_)
  exact aw_iret X hret bI_nar dX7_isScene_14 (⟨by rw [bI_congr (is_n (by omega))], rfl⟩)

set_option maxHeartbeats 4000000 in
set_option maxRecDepth 100000 in
theorem k_X7_at {l : Launch} {s0 : State} {a0 : Array Value} {G : GG} (X : CX l s0 a0 G) {h : AH} {tg mo : Nat} {A : KA} {t : Int32} {sm : Int64} {σ : NS} (w : MoW G h tg mo A t sm σ) (pl : Int32)  : Con l s0 G yX7_at cX7_at 4 (some .int) 3 0 0 tg [.ref mo, .int pl, .int (-1)] h (RS (.int (ff (fun k => σ.F k 4 = pl) σ.nf 0)) h) := by
  refine Con.of X (by decide +kernel) [some (.ref mo), some (.int pl), some (.int (-1)), none] rfl (Nat.le_of_ble_eq_true rfl) (fun p e s m below meth c X hnm hret => ?_)
  have w0 := w
  obtain ⟨hmo, ⟨hlp, hls, hlf⟩, ⟨hP, hS, hF⟩, ⟨hn8, hn10, hn12⟩, hdd⟩ := id w
  refine aw_iconst X (0) dX7_at_0 (by decide) rfl ?_
  refine aw_ist3 X dX7_at_1 rfl (by decide) rfl ?_
  refine aw_dn (n := σ.nf) (A := fun j k => ∀ (x : Int32), (x = nI k) → (ff (fun k => σ.F k 4 = pl) σ.nf 0 = ff (fun k => σ.F k 4 = pl) j k) → AW p l e _ s m _ below meth c _ s0 G 4 tg _ h _ _ 2 [some (.ref mo), some (.int pl), some (.int (-1)), some (.int x)] []) ?_ ?_ σ.nf 0 rfl 0 nI_0.symm rfl
  · intro x hx hI
    refine aw_ild3 X dX7_at_2 rfl ?_
    refine aw_ald0 X dX7_at_3 rfl ?_
    refine aw_get X fd_X7_16 dX7_at_4 rfl hmo rfl ?_
    refine aw_callV X dX7_at_7 rfl (k_size X.1 hlf) cmJx4a65c_size_8abf5 ml_X7_38 rfl hlf.1 rfl rfl (Nat.le_of_ble_eq_true rfl) ⟨Nat.le_of_ble_eq_true rfl, Nat.le_of_ble_eq_true rfl⟩ (aw_rs ?_)
    refine aw_icmp_ge (n2 := 38) X dX7_at_10 rfl rfl (fun c10 => ?_) (fun c10 => absurd (ge_t hx (Nat.le_refl _) (by omega)) c10)
    refine aw_ild2 X dX7_at_38 rfl ?_
    exact aw_iret X hret rfl dX7_at_39 (⟨by rw [hI]; rfl, rfl⟩)
  · intro j k hjk ih x hx hI
    refine aw_ild3 X dX7_at_2 rfl ?_
    refine aw_ald0 X dX7_at_3 rfl ?_
    refine aw_get X fd_X7_16 dX7_at_4 rfl hmo rfl ?_
    refine aw_callV X dX7_at_7 rfl (k_size X.1 hlf) cmJx4a65c_size_8abf5 ml_X7_38 rfl hlf.1 rfl rfl (Nat.le_of_ble_eq_true rfl) ⟨Nat.le_of_ble_eq_true rfl, Nat.le_of_ble_eq_true rfl⟩ (aw_rs ?_)
    refine aw_icmp_ge (n2 := 38) X dX7_at_10 rfl rfl (fun c10 => absurd c10 (ge_f hx (by omega) (by omega))) (fun c10 => ?_)
    refine aw_ald0 X dX7_at_13 rfl ?_
    refine aw_get X fd_X7_16 dX7_at_14 rfl hmo rfl ?_
    refine aw_ild3 X dX7_at_17 rfl ?_
    refine aw_callV X dX7_at_18 rfl (k_lget X.1 hlf hx (by omega) (hF k (by omega)).1) cmJx4a65c_get_915e3 ml_X7_48 rfl hlf.1 rfl rfl (Nat.le_of_ble_eq_true rfl) ⟨Nat.le_of_ble_eq_true rfl, Nat.le_of_ble_eq_true rfl⟩ (aw_rs ?_)
    refine aw_castA X dX7_at_21 rfl (kd := 0) (by decide) cc_X7_52 (hF k (by omega)).2 ?_
    refine aw_iconst X (4) dX7_at_24 (by decide) rfl ?_
    refine aw_iald X (4) dX7_at_25 rfl (hF k (by omega)).2 rfl (by decide) (by decide) ?_
    refine aw_ild1 X dX7_at_26 rfl ?_
    refine aw_icmp_ne (n2 := 32) X dX7_at_27 rfl rfl (fun c27 => ?_) (fun c27 => ?_)
    · refine aw_iinc3 X (1) dX7_at_32 (by decide) rfl (by decide) rfl ?_
      refine aw_goto (n := 2) X dX7_at_35 rfl ?_
      exact ih (x + 1) (nx hx) (hI.trans (if_neg c27))
    · refine aw_ild3 X dX7_at_30 rfl ?_
      exact aw_iret X hret rfl dX7_at_31 (⟨by rw [hI, hx]; exact congrArg _ (congrArg _ (if_pos c27)), rfl⟩)

set_option maxHeartbeats 4000000 in
set_option maxRecDepth 100000 in
theorem k_X7_isFree {l : Launch} {s0 : State} {a0 : Array Value} {G : GG} (X : CX l s0 a0 G) {h : AH} {tg mo : Nat} {A : KA} {t : Int32} {sm : Int64} {σ : NS} (htg : tg ≠ 0) (w : MoW G h tg mo A t sm σ) (hd : Int32)  : Con l s0 G yX7_isFree cX7_isFree 4 (some .boolean) 3 1 4 tg [.ref mo, .int hd] h (RE (.int (bI (freeP σ.F σ.nf hd))) h) := by
  refine Con.of X (by decide +kernel) [some (.ref mo), some (.int hd), none, none] rfl (Nat.le_of_ble_eq_true rfl) (fun p e s m below meth c X hnm hret => ?_)
  have w0 := w
  obtain ⟨hmo, ⟨hlp, hls, hlf⟩, ⟨hP, hS, hF⟩, ⟨hn8, hn10, hn12⟩, hdd⟩ := id w
  refine aw_ald0 X dX7_isFree_0 rfl ?_
  refine aw_get X fd_X7_16 dX7_isFree_1 rfl hmo rfl ?_
  refine aw_callV X dX7_isFree_4 rfl (k_Jx4a65c_iterator_32c93 X.1 htg hlf.1) cmJx4a65c_iterator_32c93 ml_X7_72 rfl hlf.1 rfl rfl (Nat.le_of_ble_eq_true rfl) ⟨Nat.le_of_ble_eq_true rfl, Nat.le_of_ble_eq_true rfl⟩ (fun r h2 hq hf => ?_)
  obtain ⟨q4, hq4, rfl, rfl⟩ := hq
  refine aw_ast2 X dX7_isFree_7 rfl (by decide) rfl ?_
  refine aw_dn (n := σ.nf) (A := fun j k => ∀ (y3 : Option Value), ∀ (h9 : AH), ∀ (ls : Int32), (∀ a c, h a = some c → h9 a = some c) → (h9 q4 = some (tg, oItr (nI k) ls A.mdf A.Lf)) → (∀ i, i < k → σ.F i 3 ≠ hd) → AW p l e _ s m _ below meth c _ s0 G 4 tg _ h9 _ _ 8 [some (.ref mo), some (.int hd), some (.ref q4), y3] []) ?_ ?_ σ.nf 0 rfl none _ (-1)  (fun a c e => hu_k hq4 e) hu_s (fun i hi => absurd hi (Nat.not_lt_zero _))
  · intro y3 h9 ls hx4 hit hI
    have w9 := w0.ext hx4
    obtain ⟨hmo9, ⟨hlp9, hls9, hlf9⟩, ⟨hP9, hS9, hF9⟩, -⟩ := id w9
    refine aw_ald2 X dX7_isFree_8 rfl ?_
    refine aw_callF X dX7_isFree_9 rfl (k_Jx35411_hasNext_aae02 X.1 hit hlf9.lr rfl (Nat.le_refl _)) cfJx35411_hasNext_aae02 ml_X7_76 rfl hit rfl rfl (Nat.le_of_ble_eq_true rfl) ⟨Nat.le_of_ble_eq_true rfl, Nat.le_of_ble_eq_true rfl⟩ (aw_rs ?_)
    refine aw_if_eq (n2 := 39) X dX7_isFree_14 rfl rfl (fun c14 => ?_) (fun c14 => absurd (bI_f (Nat.lt_irrefl _)) c14)
    refine aw_iconst X (1) dX7_isFree_39 (by decide) rfl ?_
    exact aw_iret X hret rfl dX7_isFree_40 (⟨by rw [bI_t (show freeP σ.F σ.nf hd from decide_eq_true hI)], hx4⟩)
  · intro j k hjk ih y3 h9 ls hx4 hit hI
    have w9 := w0.ext hx4
    obtain ⟨hmo9, ⟨hlp9, hls9, hlf9⟩, ⟨hP9, hS9, hF9⟩, -⟩ := id w9
    have hlt : k < σ.nf := by omega
    have hne : A.fa k ≠ q4 := kk_ne (hF9 k hlt).2 hit (show (100 : Nat) ≠ 0 by decide)
    have hrow : hu h9 q4 (tg, oItr (nI (k + 1)) (nI k) A.mdf A.Lf) (A.fa k) = some (tg, oRow 6 (σ.F k)) := (hu_n hne).trans (hF9 k hlt).2
    have hxn : ∀ a c, h a = some c → hu h9 q4 (tg, oItr (nI (k + 1)) (nI k) A.mdf A.Lf) a = some c := fun a c e => (hu_n (nn_ne e hq4)).trans (hx4 a c e)
    refine aw_ald2 X dX7_isFree_8 rfl ?_
    refine aw_callF X dX7_isFree_9 rfl (k_Jx35411_hasNext_aae02 X.1 hit hlf9.lr rfl (by omega)) cfJx35411_hasNext_aae02 ml_X7_76 rfl hit rfl rfl (Nat.le_of_ble_eq_true rfl) ⟨Nat.le_of_ble_eq_true rfl, Nat.le_of_ble_eq_true rfl⟩ (aw_rs ?_)
    refine aw_if_eq (n2 := 39) X dX7_isFree_14 rfl rfl (fun c14 => absurd c14 (by rw [bI_t hlt]; decide)) (fun c14 => ?_)
    refine aw_ald2 X dX7_isFree_17 rfl ?_
    refine aw_callF X dX7_isFree_18 rfl (k_Jx35411_next_0502b X.1 htg hit hlf9.lr rfl hlt (hF9 k hlt).1) cfJx35411_next_0502b ml_X7_82 rfl hit rfl rfl (Nat.le_of_ble_eq_true rfl) ⟨Nat.le_of_ble_eq_true rfl, Nat.le_of_ble_eq_true rfl⟩ (aw_rs ?_)
    refine aw_castA X dX7_isFree_23 rfl (kd := 0) (by decide) cc_X7_52 hrow ?_
    refine aw_ast3 X dX7_isFree_26 rfl (by decide) rfl ?_
    refine aw_ald3 X dX7_isFree_27 rfl ?_
    refine aw_iconst X (3) dX7_isFree_28 (by decide) rfl ?_
    refine aw_iald X (3) dX7_isFree_29 rfl hrow rfl (by decide) (by decide) ?_
    refine aw_ild1 X dX7_isFree_30 rfl ?_
    refine aw_icmp_ne (n2 := 36) X dX7_isFree_31 rfl rfl (fun c31 => ?_) (fun c31 => ?_)
    · refine aw_goto (n := 8) X dX7_isFree_36 rfl ?_
      exact ih _ _ _ hxn hu_s (fun i hi => (Nat.lt_or_eq_of_le (Nat.le_of_lt_succ hi)).elim (hI i) (fun e => by rw [e]; exact c31))
    · refine aw_iconst X (0) dX7_isFree_34 (by decide) rfl ?_
      exact aw_iret X hret rfl dX7_isFree_35 (⟨by rw [bI_f (fun q => (of_decide_eq_true (show freeB σ.F σ.nf hd = true from q)) k hlt c31)], hxn⟩)

set_option maxHeartbeats 4000000 in
set_option maxRecDepth 100000 in
theorem k_X7_onScreen {l : Launch} {s0 : State} {a0 : Array Value} {G : GG} (X : CX l s0 a0 G) {h : AH} {tg mo : Nat} {A : KA} {t : Int32} {sm : Int64} {σ : NS} (htg : tg ≠ 0) (w : MoW G h tg mo A t sm σ)  : Con l s0 G yX7_onScreen cX7_onScreen 4 (some .int) 3 1 4 tg [.ref mo] h (RE (.int (cntF σ.F σ.nf)) h) := by
  refine Con.of X (by decide +kernel) [some (.ref mo), none, none, none] rfl (Nat.le_of_ble_eq_true rfl) (fun p e s m below meth c X hnm hret => ?_)
  have w0 := w
  obtain ⟨hmo, ⟨hlp, hls, hlf⟩, ⟨hP, hS, hF⟩, ⟨hn8, hn10, hn12⟩, hdd⟩ := id w
  refine aw_iconst X (0) dX7_onScreen_0 (by decide) rfl ?_
  refine aw_ist1 X dX7_onScreen_1 rfl (by decide) rfl ?_
  refine aw_ald0 X dX7_onScreen_2 rfl ?_
  refine aw_get X fd_X7_16 dX7_onScreen_3 rfl hmo rfl ?_
  refine aw_callV X dX7_onScreen_6 rfl (k_Jx4a65c_iterator_32c93 X.1 htg hlf.1) cmJx4a65c_iterator_32c93 ml_X7_72 rfl hlf.1 rfl rfl (Nat.le_of_ble_eq_true rfl) ⟨Nat.le_of_ble_eq_true rfl, Nat.le_of_ble_eq_true rfl⟩ (fun r h2 hq hf => ?_)
  obtain ⟨q6, hq6, rfl, rfl⟩ := hq
  refine aw_ast2 X dX7_onScreen_9 rfl (by decide) rfl ?_
  refine aw_dn (n := σ.nf) (A := fun j k => ∀ (y3 : Option Value), ∀ (h9 : AH), ∀ (ls : Int32), ∀ (u : Int32), (∀ a c, h a = some c → h9 a = some c) → (h9 q6 = some (tg, oItr (nI k) ls A.mdf A.Lf)) → (u = cntF σ.F k) → AW p l e _ s m _ below meth c _ s0 G 4 tg _ h9 _ _ 10 [some (.ref mo), some (.int u), some (.ref q6), y3] []) ?_ ?_ σ.nf 0 rfl none _ (-1) 0 (fun a c e => hu_k hq6 e) hu_s rfl
  · intro y3 h9 ls u hx6 hit hI
    have w9 := w0.ext hx6
    obtain ⟨hmo9, ⟨hlp9, hls9, hlf9⟩, ⟨hP9, hS9, hF9⟩, -⟩ := id w9
    refine aw_ald2 X dX7_onScreen_10 rfl ?_
    refine aw_callF X dX7_onScreen_11 rfl (k_Jx35411_hasNext_aae02 X.1 hit hlf9.lr rfl (Nat.le_refl _)) cfJx35411_hasNext_aae02 ml_X7_76 rfl hit rfl rfl (Nat.le_of_ble_eq_true rfl) ⟨Nat.le_of_ble_eq_true rfl, Nat.le_of_ble_eq_true rfl⟩ (aw_rs ?_)
    refine aw_if_eq (n2 := 46) X dX7_onScreen_16 rfl rfl (fun c16 => ?_) (fun c16 => absurd (bI_f (Nat.lt_irrefl _)) c16)
    refine aw_ild1 X dX7_onScreen_46 rfl ?_
    exact aw_iret X hret rfl dX7_onScreen_47 (⟨by rw [hI], hx6⟩)
  · intro j k hjk ih y3 h9 ls u hx6 hit hI
    have w9 := w0.ext hx6
    obtain ⟨hmo9, ⟨hlp9, hls9, hlf9⟩, ⟨hP9, hS9, hF9⟩, -⟩ := id w9
    have hlt : k < σ.nf := by omega
    have hne : A.fa k ≠ q6 := kk_ne (hF9 k hlt).2 hit (show (100 : Nat) ≠ 0 by decide)
    have hrow : hu h9 q6 (tg, oItr (nI (k + 1)) (nI k) A.mdf A.Lf) (A.fa k) = some (tg, oRow 6 (σ.F k)) := (hu_n hne).trans (hF9 k hlt).2
    have hxn : ∀ a c, h a = some c → hu h9 q6 (tg, oItr (nI (k + 1)) (nI k) A.mdf A.Lf) a = some c := fun a c e => (hu_n (nn_ne e hq6)).trans (hx6 a c e)
    refine aw_ald2 X dX7_onScreen_10 rfl ?_
    refine aw_callF X dX7_onScreen_11 rfl (k_Jx35411_hasNext_aae02 X.1 hit hlf9.lr rfl (by omega)) cfJx35411_hasNext_aae02 ml_X7_76 rfl hit rfl rfl (Nat.le_of_ble_eq_true rfl) ⟨Nat.le_of_ble_eq_true rfl, Nat.le_of_ble_eq_true rfl⟩ (aw_rs ?_)
    refine aw_if_eq (n2 := 46) X dX7_onScreen_16 rfl rfl (fun c16 => absurd c16 (by rw [bI_t hlt]; decide)) (fun c16 => ?_)
    refine aw_ald2 X dX7_onScreen_19 rfl ?_
    refine aw_callF X dX7_onScreen_20 rfl (k_Jx35411_next_0502b X.1 htg hit hlf9.lr rfl hlt (hF9 k hlt).1) cfJx35411_next_0502b ml_X7_82 rfl hit rfl rfl (Nat.le_of_ble_eq_true rfl) ⟨Nat.le_of_ble_eq_true rfl, Nat.le_of_ble_eq_true rfl⟩ (aw_rs ?_)
    refine aw_castA X dX7_onScreen_25 rfl (kd := 0) (by decide) cc_X7_52 hrow ?_
    refine aw_ast3 X dX7_onScreen_28 rfl (by decide) rfl ?_
    refine aw_ild1 X dX7_onScreen_29 rfl ?_
    refine aw_ald3 X dX7_onScreen_30 rfl ?_
    refine aw_iconst X (3) dX7_onScreen_31 (by decide) rfl ?_
    refine aw_iald X (3) dX7_onScreen_32 rfl hrow rfl (by decide) (by decide) ?_
    refine aw_if_ne (n2 := 40) X dX7_onScreen_33 rfl rfl (fun c33 => ?_) (fun c33 => ?_)
    · refine aw_iconst X (1) dX7_onScreen_40 (by decide) rfl ?_
      refine aw_iadd X dX7_onScreen_41 rfl ?_
      refine aw_ist1 X dX7_onScreen_42 rfl (by decide) rfl ?_
      refine aw_goto (n := 10) X dX7_onScreen_43 rfl ?_
      exact ih _ _ _ _ hxn hu_s (by rw [hI]; exact (if_pos c33).symm)
    · refine aw_iconst X (0) dX7_onScreen_36 (by decide) rfl ?_
      refine aw_goto (n := 41) X dX7_onScreen_37 rfl ?_
      refine aw_iadd X dX7_onScreen_41 rfl ?_
      refine aw_ist1 X dX7_onScreen_42 rfl (by decide) rfl ?_
      refine aw_goto (n := 10) X dX7_onScreen_43 rfl ?_
      exact ih _ _ _ _ hxn hu_s (by rw [hI, Int32.add_zero]; exact (if_neg (fun q => q c33)).symm)

set_option maxHeartbeats 4000000 in
set_option maxRecDepth 100000 in
theorem k_X7_people {l : Launch} {s0 : State} {a0 : Array Value} {G : GG} (X : CX l s0 a0 G) {h : AH} {tg mo : Nat} {A : KA} {t : Int32} {sm : Int64} {σ : NS} (htg : tg ≠ 0) (w : MoW G h tg mo A t sm σ)  : Con l s0 G yX7_people cX7_people 4 (some .int) 3 1 4 tg [.ref mo] h (RE (.int (setF σ.F σ.nf)) h) := by
  refine Con.of X (by decide +kernel) [some (.ref mo), none, none, none] rfl (Nat.le_of_ble_eq_true rfl) (fun p e s m below meth c X hnm hret => ?_)
  have w0 := w
  obtain ⟨hmo, ⟨hlp, hls, hlf⟩, ⟨hP, hS, hF⟩, ⟨hn8, hn10, hn12⟩, hdd⟩ := id w
  refine aw_iconst X (0) dX7_people_0 (by decide) rfl ?_
  refine aw_ist1 X dX7_people_1 rfl (by decide) rfl ?_
  refine aw_ald0 X dX7_people_2 rfl ?_
  refine aw_get X fd_X7_16 dX7_people_3 rfl hmo rfl ?_
  refine aw_callV X dX7_people_6 rfl (k_Jx4a65c_iterator_32c93 X.1 htg hlf.1) cmJx4a65c_iterator_32c93 ml_X7_72 rfl hlf.1 rfl rfl (Nat.le_of_ble_eq_true rfl) ⟨Nat.le_of_ble_eq_true rfl, Nat.le_of_ble_eq_true rfl⟩ (fun r h2 hq hf => ?_)
  obtain ⟨q6, hq6, rfl, rfl⟩ := hq
  refine aw_ast2 X dX7_people_9 rfl (by decide) rfl ?_
  refine aw_dn (n := σ.nf) (A := fun j k => ∀ (y3 : Option Value), ∀ (h9 : AH), ∀ (ls : Int32), ∀ (u : Int32), (∀ a c, h a = some c → h9 a = some c) → (h9 q6 = some (tg, oItr (nI k) ls A.mdf A.Lf)) → (u = setF σ.F k) → AW p l e _ s m _ below meth c _ s0 G 4 tg _ h9 _ _ 10 [some (.ref mo), some (.int u), some (.ref q6), y3] []) ?_ ?_ σ.nf 0 rfl none _ (-1) 0 (fun a c e => hu_k hq6 e) hu_s rfl
  · intro y3 h9 ls u hx6 hit hI
    have w9 := w0.ext hx6
    obtain ⟨hmo9, ⟨hlp9, hls9, hlf9⟩, ⟨hP9, hS9, hF9⟩, -⟩ := id w9
    refine aw_ald2 X dX7_people_10 rfl ?_
    refine aw_callF X dX7_people_11 rfl (k_Jx35411_hasNext_aae02 X.1 hit hlf9.lr rfl (Nat.le_refl _)) cfJx35411_hasNext_aae02 ml_X7_76 rfl hit rfl rfl (Nat.le_of_ble_eq_true rfl) ⟨Nat.le_of_ble_eq_true rfl, Nat.le_of_ble_eq_true rfl⟩ (aw_rs ?_)
    refine aw_if_eq (n2 := 46) X dX7_people_16 rfl rfl (fun c16 => ?_) (fun c16 => absurd (bI_f (Nat.lt_irrefl _)) c16)
    refine aw_ild1 X dX7_people_46 rfl ?_
    exact aw_iret X hret rfl dX7_people_47 (⟨by rw [hI], hx6⟩)
  · intro j k hjk ih y3 h9 ls u hx6 hit hI
    have w9 := w0.ext hx6
    obtain ⟨hmo9, ⟨hlp9, hls9, hlf9⟩, ⟨hP9, hS9, hF9⟩, -⟩ := id w9
    have hlt : k < σ.nf := by omega
    have hne : A.fa k ≠ q6 := kk_ne (hF9 k hlt).2 hit (show (100 : Nat) ≠ 0 by decide)
    have hrow : hu h9 q6 (tg, oItr (nI (k + 1)) (nI k) A.mdf A.Lf) (A.fa k) = some (tg, oRow 6 (σ.F k)) := (hu_n hne).trans (hF9 k hlt).2
    have hxn : ∀ a c, h a = some c → hu h9 q6 (tg, oItr (nI (k + 1)) (nI k) A.mdf A.Lf) a = some c := fun a c e => (hu_n (nn_ne e hq6)).trans (hx6 a c e)
    refine aw_ald2 X dX7_people_10 rfl ?_
    refine aw_callF X dX7_people_11 rfl (k_Jx35411_hasNext_aae02 X.1 hit hlf9.lr rfl (by omega)) cfJx35411_hasNext_aae02 ml_X7_76 rfl hit rfl rfl (Nat.le_of_ble_eq_true rfl) ⟨Nat.le_of_ble_eq_true rfl, Nat.le_of_ble_eq_true rfl⟩ (aw_rs ?_)
    refine aw_if_eq (n2 := 46) X dX7_people_16 rfl rfl (fun c16 => absurd c16 (by rw [bI_t hlt]; decide)) (fun c16 => ?_)
    refine aw_ald2 X dX7_people_19 rfl ?_
    refine aw_callF X dX7_people_20 rfl (k_Jx35411_next_0502b X.1 htg hit hlf9.lr rfl hlt (hF9 k hlt).1) cfJx35411_next_0502b ml_X7_82 rfl hit rfl rfl (Nat.le_of_ble_eq_true rfl) ⟨Nat.le_of_ble_eq_true rfl, Nat.le_of_ble_eq_true rfl⟩ (aw_rs ?_)
    refine aw_castA X dX7_people_25 rfl (kd := 0) (by decide) cc_X7_52 hrow ?_
    refine aw_ast3 X dX7_people_28 rfl (by decide) rfl ?_
    refine aw_ald3 X dX7_people_29 rfl ?_
    refine aw_iconst X (3) dX7_people_30 (by decide) rfl ?_
    refine aw_iald X (3) dX7_people_31 rfl hrow rfl (by decide) (by decide) ?_
    refine aw_if_eq (n2 := 43) X dX7_people_32 rfl rfl (fun c32 => ?_) (fun c32 => ?_)
    · refine aw_goto (n := 10) X dX7_people_43 rfl ?_
      exact ih _ _ _ _ hxn hu_s (by rw [hI]; exact (if_neg (fun q => q c32)).symm)
    · refine aw_ild1 X dX7_people_35 rfl ?_
      refine aw_iconst X (1) dX7_people_36 (by decide) rfl ?_
      refine aw_ald3 X dX7_people_37 rfl ?_
      refine aw_iconst X (0) dX7_people_38 (by decide) rfl ?_
      refine aw_iald X (0) dX7_people_39 rfl hrow rfl (by decide) (by decide) ?_
      refine aw_ishl X dX7_people_40 rfl ?_
      refine aw_ior X dX7_people_41 rfl ?_
      refine aw_ist1 X dX7_people_42 rfl (by decide) rfl ?_
      refine aw_goto (n := 10) X dX7_people_43 rfl ?_
      exact ih _ _ _ _ hxn hu_s (by rw [hI]; exact (if_pos c32).symm)

set_option maxHeartbeats 4000000 in
set_option maxRecDepth 100000 in
theorem k_X7_isHeld {l : Launch} {s0 : State} {a0 : Array Value} {G : GG} (X : CX l s0 a0 G) {h : AH} {tg mo : Nat} {A : KA} {t : Int32} {sm : Int64} {σ : NS} (w : MoW G h tg mo A t sm σ) {k : Nat} {x : Int32} (hx : x = nI k) (hk : k < σ.nf)  : Con l s0 G yX7_isHeld cX7_isHeld 2 (some .boolean) 3 0 0 tg [.ref mo, .int x] h (RS (.int (bI (2 ≤ σ.F k 3))) h) := by
  refine Con.of X (by decide +kernel) [some (.ref mo), some (.int x)] rfl (Nat.le_of_ble_eq_true rfl) (fun p e s m below meth c X hnm hret => ?_)
  have w0 := w
  obtain ⟨hmo, ⟨hlp, hls, hlf⟩, ⟨hP, hS, hF⟩, ⟨hn8, hn10, hn12⟩, hdd⟩ := id w
  refine aw_ald0 X dX7_isHeld_0 rfl ?_
  refine aw_get X fd_X7_16 dX7_isHeld_1 rfl hmo rfl ?_
  refine aw_ild1 X dX7_isHeld_4 rfl ?_
  refine aw_callV X dX7_isHeld_5 rfl (k_lget X.1 hlf hx hk (hF k hk).1) cmJx4a65c_get_915e3 ml_X7_48 rfl hlf.1 rfl rfl (Nat.le_of_ble_eq_true rfl) ⟨Nat.le_of_ble_eq_true rfl, Nat.le_of_ble_eq_true rfl⟩ (aw_rs ?_)
  refine aw_castA X dX7_isHeld_8 rfl (kd := 0) (by decide) cc_X7_52 (hF k hk).2 ?_
  refine aw_iconst X (3) dX7_isHeld_11 (by decide) rfl ?_
  refine aw_iald X (3) dX7_isHeld_12 rfl (hF k hk).2 rfl (by decide) (by decide) ?_
  refine aw_iconst X (2) dX7_isHeld_13 (by decide) rfl ?_
  refine aw_icmp_lt (n2 := 21) X dX7_isHeld_14 rfl rfl (fun c14 => ?_) (fun c14 => ?_)
  · refine aw_iconst X (0) dX7_isHeld_21 (by decide) rfl ?_
    exact aw_iret X hret rfl dX7_isHeld_22 (⟨by rw [bI_f (Int32.not_le.mpr c14)], rfl⟩)
  · refine aw_iconst X (1) dX7_isHeld_17 (by decide) rfl ?_
    refine aw_goto (n := 22) X dX7_isHeld_18 rfl ?_
    exact aw_iret X hret rfl dX7_isHeld_22 (⟨by rw [bI_t (Int32.not_lt.mp c14)], rfl⟩)

set_option maxHeartbeats 4000000 in
set_option maxRecDepth 100000 in
theorem k_X7_wear {l : Launch} {s0 : State} {a0 : Array Value} {G : GG} (X : CX l s0 a0 G) {h : AH} {a tg : Nat} {r : Nat → Int32} (htg : tg ≠ 0) (hr : h a = some (tg, oRow 6 r)) (x : Int32)  : Con l s0 G yX7_wear cX7_wear 2 none 1 0 0 tg [.ref a, .int x] h (RV (hu h a (tg, oRow 6 (wearR r x)))) := by
  refine Con.of X (by decide +kernel) [some (.ref a), some (.int x)] rfl (Nat.le_of_ble_eq_true rfl) (fun p e s m below meth c X hnm hret => ?_)
  refine aw_ald0 X dX7_wear_0 rfl ?_
  refine aw_iconst X (2) dX7_wear_1 (by decide) rfl ?_
  refine aw_bipush X (100) dX7_wear_2 (by decide) rfl ?_
  refine aw_ald0 X dX7_wear_4 rfl ?_
  refine aw_iconst X (2) dX7_wear_5 (by decide) rfl ?_
  refine aw_iald X (2) dX7_wear_6 rfl hr rfl (by decide) (by decide) ?_
  refine aw_ild1 X dX7_wear_7 rfl ?_
  refine aw_iadd X dX7_wear_8 rfl ?_
  refine aw_mmin X dX7_wear_9 rfl ⟨ml_X7_62, mm_min⟩ (Nat.le_of_ble_eq_true rfl) (Nat.le_of_ble_eq_true rfl) ?_
  refine aw_iast X (2) dX7_wear_12 rfl htg hr rfl (by decide) (by decide) ?_
  exact aw_vret X hret dX7_wear_13 (⟨rfl, rfl⟩)

set_option maxHeartbeats 4000000 in
set_option maxRecDepth 100000 in
theorem k_X7_shadow {l : Launch} {s0 : State} {a0 : Array Value} {G : GG} (X : CX l s0 a0 G) {h : AH} {tg mo : Nat} {A : KA} {t : Int32} {sm : Int64} {σ : NS} (w : MoW G h tg mo A t sm σ) {a tr : Nat} {r : Nat → Int32} (hr : h a = some (tr, oRow 6 r)) (x : Int32) (hne : ¬ σ.di - x = 0)  : Con l s0 G yX7_shadow cX7_shadow 3 (some .int) 0 0 0 tg [.ref mo, .ref a, .int x] h (RS (.int (r 1 * σ.di / (σ.di - x))) h) := by
  refine Con.of X (by decide +kernel) [some (.ref mo), some (.ref a), some (.int x)] rfl (Nat.le_of_ble_eq_true rfl) (fun p e s m below meth c X hnm hret => ?_)
  have w0 := w
  obtain ⟨hmo, ⟨hlp, hls, hlf⟩, ⟨hP, hS, hF⟩, ⟨hn8, hn10, hn12⟩, hdd⟩ := id w
  refine aw_ald1 X dX7_shadow_0 rfl ?_
  refine aw_iconst X (1) dX7_shadow_1 (by decide) rfl ?_
  refine aw_iald X (1) dX7_shadow_2 rfl hr rfl (by decide) (by decide) ?_
  refine aw_ald0 X dX7_shadow_3 rfl ?_
  refine aw_get X fd_X7_22 dX7_shadow_4 rfl hmo rfl ?_
  refine aw_imul X dX7_shadow_7 rfl ?_
  refine aw_ald0 X dX7_shadow_8 rfl ?_
  refine aw_get X fd_X7_22 dX7_shadow_9 rfl hmo rfl ?_
  refine aw_ild2 X dX7_shadow_12 rfl ?_
  refine aw_isub X dX7_shadow_13 rfl ?_
  refine aw_idiv X dX7_shadow_14 (hne) rfl ?_
  exact aw_iret X hret rfl dX7_shadow_15 (⟨rfl, rfl⟩)

set_option maxHeartbeats 4000000 in
set_option maxRecDepth 100000 in
theorem k_X7_isOf {l : Launch} {s0 : State} {a0 : Array Value} {G : GG} (X : CX l s0 a0 G) {h : AH} {tg mo : Nat} {A : KA} {t : Int32} {sm : Int64} {σ : NS} (w : MoW G h tg mo A t sm σ) (x ca : Int32)  : Con l s0 G yX7_isOf cX7_isOf 3 (some .boolean) 2 0 0 tg [.ref mo, .int x, .int ca] h (RS (.int (bI (x = -1 ∨ ((0 ≤ x ∧ x < nI σ.np) ∧ (ca >>> (x &&& 31)) &&& 1 = 1)))) h) := by
  refine Con.of X (by decide +kernel) [some (.ref mo), some (.int x), some (.int ca)] rfl (Nat.le_of_ble_eq_true rfl) (fun p e s m below meth c X hnm hret => ?_)
  have w0 := w
  obtain ⟨hmo, ⟨hlp, hls, hlf⟩, ⟨hP, hS, hF⟩, ⟨hn8, hn10, hn12⟩, hdd⟩ := id w
  refine aw_ild1 X dX7_isOf_0 rfl ?_
  refine aw_iconst X (-1) dX7_isOf_1 (by decide) rfl ?_
  refine aw_icmp_eq (n2 := 22) X dX7_isOf_2 rfl rfl (fun c2 => ?_) (fun c2 => ?_)
  · refine aw_iconst X (1) dX7_isOf_22 (by decide) rfl ?_
    refine aw_goto (n := 27) X dX7_isOf_23 rfl ?_
    exact aw_iret X hret rfl dX7_isOf_27 (⟨by rw [bI_t (Or.inl c2)], rfl⟩)
  · refine aw_ald0 X dX7_isOf_5 rfl ?_
    refine aw_ild1 X dX7_isOf_6 rfl ?_
    refine aw_callV X dX7_isOf_7 rfl (k_X7_isPerson X.1 w0 x) cmX7_isPerson ml_X7_101 rfl hmo rfl rfl (Nat.le_of_ble_eq_true rfl) ⟨Nat.le_of_ble_eq_true rfl, Nat.le_of_ble_eq_true rfl⟩ (aw_rs ?_)
    refine aw_if_eq (n2 := 26) X dX7_isOf_10 rfl rfl (fun c10 => ?_) (fun c10 => ?_)
    · refine aw_iconst X (0) dX7_isOf_26 (by decide) rfl ?_
      exact aw_iret X hret rfl dX7_isOf_27 (⟨by rw [bI_f (fun q => q.elim c2 (fun z => bI_n c10 z.1))], rfl⟩)
    · refine aw_ild2 X dX7_isOf_13 rfl ?_
      refine aw_ild1 X dX7_isOf_14 rfl ?_
      refine aw_ishr X dX7_isOf_15 rfl ?_
      refine aw_iconst X (1) dX7_isOf_16 (by decide) rfl ?_
      refine aw_iand X dX7_isOf_17 rfl ?_
      refine aw_iconst X (1) dX7_isOf_18 (by decide) rfl ?_
      refine aw_icmp_ne (n2 := 26) X dX7_isOf_19 rfl rfl (fun c19 => ?_) (fun c19 => ?_)
      · refine aw_iconst X (0) dX7_isOf_26 (by decide) rfl ?_
        exact aw_iret X hret rfl dX7_isOf_27 (⟨by rw [bI_f (fun q => q.elim c2 (fun z => c19 z.2))], rfl⟩)
      · refine aw_iconst X (1) dX7_isOf_22 (by decide) rfl ?_
        refine aw_goto (n := 27) X dX7_isOf_23 rfl ?_
        exact aw_iret X hret rfl dX7_isOf_27 (⟨by rw [bI_t (Or.inr ⟨bI_y c10, c19⟩)], rfl⟩)

set_option maxHeartbeats 4000000 in
set_option maxRecDepth 100000 in
theorem k_X7_on {l : Launch} {s0 : State} {a0 : Array Value} {G : GG} (X : CX l s0 a0 G) {h : AH} {tg mo : Nat} {A : KA} {t : Int32} {sm : Int64} {σ : NS} (w : MoW G h tg mo A t sm σ)  : Con l s0 G yX7_on cX7_on 3 (some .int) 3 0 0 tg [.ref mo] h (RS (.int (onS σ)) h) := by
  refine Con.of X (by decide +kernel) [some (.ref mo), none, none] rfl (Nat.le_of_ble_eq_true rfl) (fun p e s m below meth c X hnm hret => ?_)
  have w0 := w
  obtain ⟨hmo, ⟨hlp, hls, hlf⟩, ⟨hP, hS, hF⟩, ⟨hn8, hn10, hn12⟩, hdd⟩ := id w
  refine aw_iconst X (0) dX7_on_0 (by decide) rfl ?_
  refine aw_ist1 X dX7_on_1 rfl (by decide) rfl ?_
  refine aw_iconst X (0) dX7_on_2 (by decide) rfl ?_
  refine aw_ist2 X dX7_on_3 rfl (by decide) rfl ?_
  refine aw_dn (n := σ.ns) (A := fun j k => ∀ (x : Int32), (x = nI k) → (onS σ = ff (fun k => σ.mi < rB σ.S k + σ.S k 3) j k) → AW p l e _ s m _ below meth c _ s0 G 3 tg _ h _ _ 4 [some (.ref mo), some (.int (rB σ.S k)), some (.int x)] []) ?_ ?_ σ.ns 0 rfl 0 nI_0.symm rfl
  · intro x hx hI
    refine aw_ild2 X dX7_on_4 rfl ?_
    refine aw_ald0 X dX7_on_5 rfl ?_
    refine aw_get X fd_X7_19 dX7_on_6 rfl hmo rfl ?_
    refine aw_callV X dX7_on_9 rfl (k_size X.1 hls) cmJx4a65c_size_8abf5 ml_X7_38 rfl hls.1 rfl rfl (Nat.le_of_ble_eq_true rfl) ⟨Nat.le_of_ble_eq_true rfl, Nat.le_of_ble_eq_true rfl⟩ (aw_rs ?_)
    refine aw_icmp_ge (n2 := 47) X dX7_on_12 rfl rfl (fun c12 => ?_) (fun c12 => absurd (ge_t hx (Nat.le_refl _) (by omega)) c12)
    refine aw_iconst X (-1) dX7_on_47 (by decide) rfl ?_
    exact aw_iret X hret rfl dX7_on_48 (⟨by rw [hI]; rfl, rfl⟩)
  · intro j k hjk ih x hx hI
    refine aw_ild2 X dX7_on_4 rfl ?_
    refine aw_ald0 X dX7_on_5 rfl ?_
    refine aw_get X fd_X7_19 dX7_on_6 rfl hmo rfl ?_
    refine aw_callV X dX7_on_9 rfl (k_size X.1 hls) cmJx4a65c_size_8abf5 ml_X7_38 rfl hls.1 rfl rfl (Nat.le_of_ble_eq_true rfl) ⟨Nat.le_of_ble_eq_true rfl, Nat.le_of_ble_eq_true rfl⟩ (aw_rs ?_)
    refine aw_icmp_ge (n2 := 47) X dX7_on_12 rfl rfl (fun c12 => absurd c12 (ge_f hx (by omega) (by omega))) (fun c12 => ?_)
    refine aw_ild1 X dX7_on_15 rfl ?_
    refine aw_ald0 X dX7_on_16 rfl ?_
    refine aw_get X fd_X7_19 dX7_on_17 rfl hmo rfl ?_
    refine aw_ild2 X dX7_on_20 rfl ?_
    refine aw_callV X dX7_on_21 rfl (k_lget X.1 hls hx (by omega) (hS k (by omega)).1) cmJx4a65c_get_915e3 ml_X7_48 rfl hls.1 rfl rfl (Nat.le_of_ble_eq_true rfl) ⟨Nat.le_of_ble_eq_true rfl, Nat.le_of_ble_eq_true rfl⟩ (aw_rs ?_)
    refine aw_castA X dX7_on_24 rfl (kd := 0) (by decide) cc_X7_52 (hS k (by omega)).2 ?_
    refine aw_iconst X (3) dX7_on_27 (by decide) rfl ?_
    refine aw_iald X (3) dX7_on_28 rfl (hS k (by omega)).2 rfl (by decide) (by decide) ?_
    refine aw_iadd X dX7_on_29 rfl ?_
    refine aw_ist1 X dX7_on_30 rfl (by decide) rfl ?_
    refine aw_ald0 X dX7_on_31 rfl ?_
    refine aw_get X fd_X7_86 dX7_on_32 rfl hmo rfl ?_
    refine aw_ild1 X dX7_on_35 rfl ?_
    refine aw_icmp_ge (n2 := 41) X dX7_on_36 rfl rfl (fun c36 => ?_) (fun c36 => ?_)
    · refine aw_iinc2 X (1) dX7_on_41 (by decide) rfl (by decide) rfl ?_
      refine aw_goto (n := 4) X dX7_on_44 rfl ?_
      exact ih (x + 1) (nx hx) (hI.trans (if_neg (Int32.not_lt.mpr c36)))
    · refine aw_ild2 X dX7_on_39 rfl ?_
      exact aw_iret X hret rfl dX7_on_40 (⟨by rw [hI, hx]; exact congrArg _ (congrArg _ (if_pos (Int32.not_le.mp c36))), rfl⟩)

set_option maxHeartbeats 4000000 in
set_option maxRecDepth 100000 in
theorem k_X7_over {l : Launch} {s0 : State} {a0 : Array Value} {G : GG} (X : CX l s0 a0 G) {h : AH} {tg mo : Nat} {A : KA} {t : Int32} {sm : Int64} {σ : NS} (htg : tg ≠ 0) (w : MoW G h tg mo A t sm σ)  : Con l s0 G yX7_over cX7_over 4 (some .int) 3 1 4 tg [.ref mo] h (RE (.int (rB σ.S σ.ns)) h) := by
  refine Con.of X (by decide +kernel) [some (.ref mo), none, none, none] rfl (Nat.le_of_ble_eq_true rfl) (fun p e s m below meth c X hnm hret => ?_)
  have w0 := w
  obtain ⟨hmo, ⟨hlp, hls, hlf⟩, ⟨hP, hS, hF⟩, ⟨hn8, hn10, hn12⟩, hdd⟩ := id w
  refine aw_iconst X (0) dX7_over_0 (by decide) rfl ?_
  refine aw_ist1 X dX7_over_1 rfl (by decide) rfl ?_
  refine aw_ald0 X dX7_over_2 rfl ?_
  refine aw_get X fd_X7_19 dX7_over_3 rfl hmo rfl ?_
  refine aw_callV X dX7_over_6 rfl (k_Jx4a65c_iterator_32c93 X.1 htg hls.1) cmJx4a65c_iterator_32c93 ml_X7_72 rfl hls.1 rfl rfl (Nat.le_of_ble_eq_true rfl) ⟨Nat.le_of_ble_eq_true rfl, Nat.le_of_ble_eq_true rfl⟩ (fun r h2 hq hf => ?_)
  obtain ⟨q6, hq6, rfl, rfl⟩ := hq
  refine aw_ast2 X dX7_over_9 rfl (by decide) rfl ?_
  refine aw_dn (n := σ.ns) (A := fun j k => ∀ (y3 : Option Value), ∀ (h9 : AH), ∀ (ls : Int32), (∀ a c, h a = some c → h9 a = some c) → (h9 q6 = some (tg, oItr (nI k) ls A.mds A.Ls)) → AW p l e _ s m _ below meth c _ s0 G 4 tg _ h9 _ _ 10 [some (.ref mo), some (.int (rB σ.S k)), some (.ref q6), y3] []) ?_ ?_ σ.ns 0 rfl none _ (-1)  (fun a c e => hu_k hq6 e) hu_s 
  · intro y3 h9 ls hx6 hit
    have w9 := w0.ext hx6
    obtain ⟨hmo9, ⟨hlp9, hls9, hlf9⟩, ⟨hP9, hS9, hF9⟩, -⟩ := id w9
    refine aw_ald2 X dX7_over_10 rfl ?_
    refine aw_callF X dX7_over_11 rfl (k_Jx35411_hasNext_aae02 X.1 hit hls9.lr rfl (Nat.le_refl _)) cfJx35411_hasNext_aae02 ml_X7_76 rfl hit rfl rfl (Nat.le_of_ble_eq_true rfl) ⟨Nat.le_of_ble_eq_true rfl, Nat.le_of_ble_eq_true rfl⟩ (aw_rs ?_)
    refine aw_if_eq (n2 := 38) X dX7_over_16 rfl rfl (fun c16 => ?_) (fun c16 => absurd (bI_f (Nat.lt_irrefl _)) c16)
    refine aw_ild1 X dX7_over_38 rfl ?_
    exact aw_iret X hret rfl dX7_over_39 (⟨rfl, hx6⟩)
  · intro j k hjk ih y3 h9 ls hx6 hit
    have w9 := w0.ext hx6
    obtain ⟨hmo9, ⟨hlp9, hls9, hlf9⟩, ⟨hP9, hS9, hF9⟩, -⟩ := id w9
    have hlt : k < σ.ns := by omega
    have hne : A.sa k ≠ q6 := kk_ne (hS9 k hlt).2 hit (show (100 : Nat) ≠ 0 by decide)
    have hrow : hu h9 q6 (tg, oItr (nI (k + 1)) (nI k) A.mds A.Ls) (A.sa k) = some (tg, oRow 6 (σ.S k)) := (hu_n hne).trans (hS9 k hlt).2
    have hxn : ∀ a c, h a = some c → hu h9 q6 (tg, oItr (nI (k + 1)) (nI k) A.mds A.Ls) a = some c := fun a c e => (hu_n (nn_ne e hq6)).trans (hx6 a c e)
    refine aw_ald2 X dX7_over_10 rfl ?_
    refine aw_callF X dX7_over_11 rfl (k_Jx35411_hasNext_aae02 X.1 hit hls9.lr rfl (by omega)) cfJx35411_hasNext_aae02 ml_X7_76 rfl hit rfl rfl (Nat.le_of_ble_eq_true rfl) ⟨Nat.le_of_ble_eq_true rfl, Nat.le_of_ble_eq_true rfl⟩ (aw_rs ?_)
    refine aw_if_eq (n2 := 38) X dX7_over_16 rfl rfl (fun c16 => absurd c16 (by rw [bI_t hlt]; decide)) (fun c16 => ?_)
    refine aw_ald2 X dX7_over_19 rfl ?_
    refine aw_callF X dX7_over_20 rfl (k_Jx35411_next_0502b X.1 htg hit hls9.lr rfl hlt (hS9 k hlt).1) cfJx35411_next_0502b ml_X7_82 rfl hit rfl rfl (Nat.le_of_ble_eq_true rfl) ⟨Nat.le_of_ble_eq_true rfl, Nat.le_of_ble_eq_true rfl⟩ (aw_rs ?_)
    refine aw_castA X dX7_over_25 rfl (kd := 0) (by decide) cc_X7_52 hrow ?_
    refine aw_ast3 X dX7_over_28 rfl (by decide) rfl ?_
    refine aw_ild1 X dX7_over_29 rfl ?_
    refine aw_ald3 X dX7_over_30 rfl ?_
    refine aw_iconst X (3) dX7_over_31 (by decide) rfl ?_
    refine aw_iald X (3) dX7_over_32 rfl hrow rfl (by decide) (by decide) ?_
    refine aw_iadd X dX7_over_33 rfl ?_
    refine aw_ist1 X dX7_over_34 rfl (by decide) rfl ?_
    refine aw_goto (n := 10) X dX7_over_35 rfl ?_
    exact ih _ _ _ hxn hu_s
