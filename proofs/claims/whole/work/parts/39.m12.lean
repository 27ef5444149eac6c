/-! THE MODEL'S CALLS: knows, ofScene, many -/
theorem kfS_bt {P : Nat → Nat → Int32} : ∀ n, n ≤ 31 → ∀ i, i < 31 → (bt (kfS P n) i = true ↔ i < n ∧ ¬ P i 5 = 0) := by
  intro n
  induction n with
  | zero => intro _ i _; exact ⟨fun q => (by rw [show kfS P 0 = 0 from rfl, b_0] at q; cases q), fun q => absurd q.1 (Nat.not_lt_zero _)⟩
  | succ n ih =>
    intro hn i hi
    have e : kfS P (n + 1) = if P n 5 = 0 then kfS P n else kfS P n ||| ((1 : Int32) <<< (nI n &&& 31)) := rfl
    have ih := ih (by omega) i hi
    rw [e]
    by_cases c : P n 5 = 0
    · rw [if_pos c, ih]
      refine ⟨fun q => ⟨by omega, q.2⟩, fun q => ⟨?_, q.2⟩⟩
      rcases Nat.lt_or_eq_of_le (Nat.le_of_lt_succ q.1) with z | z
      · exact z
      · exact absurd (by rw [z]; exact c) q.2
    · rw [if_neg c, b_or, b_one (by omega) (by omega), Bool.or_eq_true, ih, decide_eq_true_eq]
      constructor
      · rintro (q | q)
        · exact ⟨by omega, q.2⟩
        · exact ⟨by omega, by rw [q]; exact c⟩
      · intro q
        rcases Nat.lt_or_eq_of_le (Nat.le_of_lt_succ q.1) with z | z
        · exact Or.inl ⟨z, q.2⟩
        · exact Or.inr z
theorem kn_0 {σ : NS} (hv : IV σ) {k : Nat} (hk : k < σ.np) : holdsP (knS σ (-1)) (nI k) ↔ σ.P k 5 = 1 := by
  have hn := hv.1.1
  rw [show knS σ (-1) = kfS σ.P σ.np from if_pos rfl, holds_bt (by omega), kfS_bt σ.np (by omega) k (by omega)]
  rcases (hv.2.1 k hk).2.2.2.2 with e | e
  · rw [e]; exact ⟨fun q => absurd rfl q.2, fun q => absurd q (by decide)⟩
  · rw [e]; exact ⟨fun _ => rfl, fun _ => ⟨hk, by decide⟩⟩
theorem kn_1 {σ : NS} (hv : IV σ) {k j : Nat} (hk : k < σ.np) (hj : j < σ.ns) : holdsP (knS σ (nI j)) (nI k) ↔ (mK σ.S (kfS σ.P σ.np) (j + 1) >>> (nI k &&& 31)) &&& 1 = 1 := by
  have hn := hv.1.1
  have hn2 := hv.1.2.1
  have e : knS σ (nI j) = rK σ.S (kfS σ.P σ.np) (j + 1) := by
    unfold knS
    rw [if_neg (fun q => by
      have h0 := nI_0le j (by omega)
      rw [q] at h0
      exact absurd h0 (by decide)), iN_nI (by omega)]
  rw [e, ← mK_eq hn hv.sv (j + 1) (by omega), holds_bt (by omega), bt_1 (by omega)]
theorem IV.k5 {σ : NS} (hv : IV σ) : ∀ k, k < σ.np → σ.P k 5 = 0 ∨ σ.P k 5 = 1 := fun k hk => (hv.2.1 k hk).2.2.2.2
theorem IV.dis {σ : NS} (hv : IV σ) : ∀ k, k < σ.ns → σ.S k 4 = -1 ∨ ∃ i, i < σ.np ∧ σ.S k 4 = nI i := fun k hk => hv.sv.di hv.1.1 hk
theorem tRow_0 {P F : Nat → Nat → Int32} {np k : Nat} {kf : Int32} : tRow P np F kf k 0 = rB F k := rfl
theorem tRow_1 {P F : Nat → Nat → Int32} {np k : Nat} {kf : Int32} : tRow P np F kf k 1 = mB P np F k (rB F k) (mK F kf k) := rfl
theorem tRow_2 {P F : Nat → Nat → Int32} {np k : Nat} {kf : Int32} : tRow P np F kf k 2 = mK F kf (k + 1) := rfl

set_option maxHeartbeats 4000000 in
set_option maxRecDepth 100000 in
theorem k_X7_knowsBehind {l : Launch} {s0 : State} {a0 : Array Value} {G : GG} (X : CX l s0 a0 G) {h : AH} {tg mo : Nat} {A : KA} {t : Int32} {sm : Int64} {σ : NS} (htg : tg ≠ 0) (w : MoW G h tg mo A t sm σ) (hv : IV σ) {k : Nat} {x : Int32} (hx : x = nI k) (hk : k < σ.np) {y : Int32} (hy : y = -1 ∨ ∃ j, j < σ.ns ∧ y = nI j)  : Con l s0 G yX7_knowsBehind cX7_knowsBehind 3 (some .boolean) 6 11 40 tg [.ref mo, .int x, .int y] h (RE (.int (bI (holdsP (knS σ y) x))) h) := by
  refine Con.of X (by decide +kernel) [some (.ref mo), some (.int x), some (.int y)] rfl (Nat.le_of_ble_eq_true rfl) (fun p e s m below meth c X hnm hret => ?_)
  have w0 := w
  obtain ⟨hmo, ⟨hlp, hls, hlf⟩, ⟨hP, hS, hF⟩, ⟨hn8, hn10, hn12⟩, hdd⟩ := id w
  subst hx
  refine aw_ild2 X dX7_knowsBehind_0 rfl ?_
  refine aw_iconst X (-1) dX7_knowsBehind_1 (by decide) rfl ?_
  refine aw_icmp_ne (n2 := 30) X dX7_knowsBehind_2 rfl rfl (fun c2 => ?_) (fun c2 => ?_)
  · obtain ⟨j, hj, rfl⟩ := hy.resolve_left c2
    refine aw_ald0 X dX7_knowsBehind_30 rfl ?_
    refine aw_ald0 X dX7_knowsBehind_31 rfl ?_
    refine aw_get X fd_X7_19 dX7_knowsBehind_32 rfl hmo rfl ?_
    refine aw_callV X dX7_knowsBehind_35 rfl (k_X7_plot X.1 htg w0 hls.lr hS hn10 hv.k5 hv.dis) cmX7_plot ml_X7_68 rfl hmo rfl rfl (Nat.le_of_ble_eq_true rfl) ⟨Nat.le_of_ble_eq_true rfl, Nat.le_of_ble_eq_true rfl⟩ (fun r h2 hq hf => ?_)
    obtain ⟨q, r, rfl, htb⟩ := hq
    refine aw_ild2 X dX7_knowsBehind_38 rfl ?_
    refine aw_aald2 X j dX7_knowsBehind_39 rfl htb.2.1 rfl hj (by omega) (if_pos hj) ?_
    refine aw_iconst X (2) dX7_knowsBehind_40 (by decide) rfl ?_
    refine aw_iald X (2) dX7_knowsBehind_41 rfl (htb.2.2 j hj) rfl (by decide) (by decide) ?_
    rw [tRow_2]
    refine aw_ild1 X dX7_knowsBehind_42 rfl ?_
    refine aw_ishr X dX7_knowsBehind_43 rfl ?_
    refine aw_iconst X (1) dX7_knowsBehind_44 (by decide) rfl ?_
    refine aw_iand X dX7_knowsBehind_45 rfl ?_
    refine aw_iconst X (1) dX7_knowsBehind_46 (by decide) rfl ?_
    refine aw_icmp_ne (n2 := 54) X dX7_knowsBehind_47 rfl rfl (fun c47 => ?_) (fun c47 => ?_)
    · refine aw_iconst X (0) dX7_knowsBehind_54 (by decide) rfl ?_
      exact aw_iret X hret rfl dX7_knowsBehind_55 (⟨by rw [bI_f (fun q => c47 ((kn_1 hv hk hj).mp q))], htb.1⟩)
    · refine aw_iconst X (1) dX7_knowsBehind_50 (by decide) rfl ?_
      refine aw_goto (n := 55) X dX7_knowsBehind_51 rfl ?_
      exact aw_iret X hret rfl dX7_knowsBehind_55 (⟨by rw [bI_t ((kn_1 hv hk hj).mpr c47)], htb.1⟩)
  · subst c2
    refine aw_ald0 X dX7_knowsBehind_5 rfl ?_
    refine aw_get X fd_X7_10 dX7_knowsBehind_6 rfl hmo rfl ?_
    refine aw_ild1 X dX7_knowsBehind_9 rfl ?_
    refine aw_callV X dX7_knowsBehind_10 rfl (k_lget X.1 hlp rfl hk (hP k hk).1) cmJx4a65c_get_915e3 ml_X7_48 rfl hlp.1 rfl rfl (Nat.le_of_ble_eq_true rfl) ⟨Nat.le_of_ble_eq_true rfl, Nat.le_of_ble_eq_true rfl⟩ (aw_rs ?_)
    refine aw_castA X dX7_knowsBehind_13 rfl (kd := 0) (by decide) cc_X7_52 (hP k hk).2 ?_
    refine aw_iconst X (5) dX7_knowsBehind_16 (by decide) rfl ?_
    refine aw_iald X (5) dX7_knowsBehind_17 rfl (hP k hk).2 rfl (by decide) (by decide) ?_
    refine aw_iconst X (1) dX7_knowsBehind_18 (by decide) rfl ?_
    refine aw_icmp_ne (n2 := 26) X dX7_knowsBehind_19 rfl rfl (fun c19 => ?_) (fun c19 => ?_)
    · refine aw_iconst X (0) dX7_knowsBehind_26 (by decide) rfl ?_
      refine aw_goto (n := 55) X dX7_knowsBehind_27 rfl ?_
      exact aw_iret X hret rfl dX7_knowsBehind_55 (⟨by rw [bI_f (fun q => c19 ((kn_0 hv hk).mp q))], fun a c e => e⟩)
    · refine aw_iconst X (1) dX7_knowsBehind_22 (by decide) rfl ?_
      refine aw_goto (n := 55) X dX7_knowsBehind_23 rfl ?_
      exact aw_iret X hret rfl dX7_knowsBehind_55 (⟨by rw [bI_t ((kn_0 hv hk).mpr c19)], fun a c e => e⟩)

set_option maxHeartbeats 4000000 in
set_option maxRecDepth 100000 in
theorem k_X7_knows {l : Launch} {s0 : State} {a0 : Array Value} {G : GG} (X : CX l s0 a0 G) {h : AH} {tg mo : Nat} {A : KA} {t : Int32} {sm : Int64} {σ : NS} (htg : tg ≠ 0) (w : MoW G h tg mo A t sm σ) (hv : IV σ) (x y : Int32)  : Con l s0 G yX7_knows cX7_knows 3 (some .boolean) 7 11 40 tg [.ref mo, .int x, .int y] h (PoM G tg mo (sp_knows σ x y)) := by
  refine Con.of X (by decide +kernel) [some (.ref mo), some (.int x), some (.int y)] rfl (Nat.le_of_ble_eq_true rfl) (fun p e s m below meth c X hnm hret => ?_)
  have w0 := w
  obtain ⟨hmo, ⟨hlp, hls, hlf⟩, ⟨hP, hS, hF⟩, ⟨hn8, hn10, hn12⟩, hdd⟩ := id w
  refine aw_ald0 X dX7_knows_0 rfl ?_
  refine aw_ald0 X dX7_knows_1 rfl ?_
  refine aw_ild1 X dX7_knows_2 rfl ?_
  refine aw_callV X dX7_knows_3 rfl (k_X7_isPerson X.1 w0 x) cmX7_isPerson ml_X7_101 rfl hmo rfl rfl (Nat.le_of_ble_eq_true rfl) ⟨Nat.le_of_ble_eq_true rfl, Nat.le_of_ble_eq_true rfl⟩ (aw_rs ?_)
  refine aw_if_eq (n2 := 26) X dX7_knows_6 rfl rfl (fun c6 => ?_) (fun c6 => ?_)
  · refine aw_iconst X (1) dX7_knows_26 (by decide) rfl ?_
    refine aw_put X fd_X7_35 fw_X7_0 dX7_knows_27 rfl htg hmo rfl rfl (Nat.le_of_ble_eq_true rfl) ?_
    refine aw_genP (Pr := fun h3 => MoW G h3 tg mo A (nI 1) sm σ) (w0.obj (nI 1) sm σ.v) (fun h1 w1 => ?_)
    clear hmo hlp hls hlf hP hS hF hdd
    obtain ⟨hmo, ⟨hlp, hls, hlf⟩, ⟨hP, hS, hF⟩, -, hdd⟩ := id w1
    refine aw_ald0 X dX7_knows_30 rfl ?_
    refine aw_get X fd_X7_35 dX7_knows_31 rfl hmo rfl ?_
    refine aw_if_ne (n2 := 50) X dX7_knows_34 rfl rfl (fun c34 => ?_) (fun c34 => absurd c34 (by decide))
    refine aw_iconst X (0) dX7_knows_50 (by decide) rfl ?_
    exact aw_iret X hret rfl dX7_knows_51 (PoM.mk (k := 1) (σ2 := σ) (by unfold sp_knows; rw [if_pos (Or.inl (bI_n c6))]) w1)
  · refine aw_ild2 X dX7_knows_9 rfl ?_
    refine aw_iconst X (-1) dX7_knows_10 (by decide) rfl ?_
    refine aw_icmp_eq (n2 := 22) X dX7_knows_11 rfl rfl (fun c11 => ?_) (fun c11 => ?_)
    · refine aw_iconst X (0) dX7_knows_22 (by decide) rfl ?_
      refine aw_goto (n := 27) X dX7_knows_23 rfl ?_
      refine aw_put X fd_X7_35 fw_X7_0 dX7_knows_27 rfl htg hmo rfl rfl (Nat.le_of_ble_eq_true rfl) ?_
      refine aw_genP (Pr := fun h3 => MoW G h3 tg mo A 0 sm σ) (w0.obj 0 sm σ.v) (fun h1 w1 => ?_)
      clear hmo hlp hls hlf hP hS hF hdd
      obtain ⟨hmo, ⟨hlp, hls, hlf⟩, ⟨hP, hS, hF⟩, -, hdd⟩ := id w1
      refine aw_ald0 X dX7_knows_30 rfl ?_
      refine aw_get X fd_X7_35 dX7_knows_31 rfl hmo rfl ?_
      refine aw_if_ne (n2 := 50) X dX7_knows_34 rfl rfl (fun c34 => absurd rfl c34) (fun c34 => ?_)
      obtain ⟨hxk, hxl⟩ := cat_in (bI_y c6) (show σ.np < 2 ^ 31 by omega)
      refine aw_ald0 X dX7_knows_37 rfl ?_
      refine aw_ild1 X dX7_knows_38 rfl ?_
      refine aw_ild2 X dX7_knows_39 rfl ?_
      refine aw_callV X dX7_knows_40 rfl (k_X7_knowsBehind X.1 htg w1 hv hxk hxl (y := y) (Or.inl c11)) cmX7_knowsBehind ml_X7_206 rfl hmo rfl rfl (Nat.le_of_ble_eq_true rfl) ⟨Nat.le_of_ble_eq_true rfl, Nat.le_of_ble_eq_true rfl⟩ (fun r h2 hq hf => ?_)
      obtain ⟨rfl, hxA⟩ := hq
      refine aw_if_eq (n2 := 50) X dX7_knows_43 rfl rfl (fun c43 => ?_) (fun c43 => ?_)
      · refine aw_iconst X (0) dX7_knows_50 (by decide) rfl ?_
        exact aw_iret X hret rfl dX7_knows_51 (PoM.mk (k := 0) (σ2 := σ) (by unfold sp_knows; rw [if_neg (fun q => q.elim (fun z => z (bI_y c6)) (fun z => z.1 c11)), c43]) (w1.ext hxA))
      · refine aw_iconst X (1) dX7_knows_46 (by decide) rfl ?_
        refine aw_goto (n := 51) X dX7_knows_47 rfl ?_
        exact aw_iret X hret rfl dX7_knows_51 (PoM.mk (k := 0) (σ2 := σ) (by unfold sp_knows; rw [if_neg (fun q => q.elim (fun z => z (bI_y c6)) (fun z => z.1 c11)), bI_t (bI_y c43)]) (w1.ext hxA))
    · refine aw_ald0 X dX7_knows_14 rfl ?_
      refine aw_ild2 X dX7_knows_15 rfl ?_
      refine aw_callV X dX7_knows_16 rfl (k_X7_isScene X.1 w0 y) cmX7_isScene ml_X7_109 rfl hmo rfl rfl (Nat.le_of_ble_eq_true rfl) ⟨Nat.le_of_ble_eq_true rfl, Nat.le_of_ble_eq_true rfl⟩ (aw_rs ?_)
      refine aw_if_eq (n2 := 26) X dX7_knows_19 rfl rfl (fun c19 => ?_) (fun c19 => ?_)
      · refine aw_iconst X (1) dX7_knows_26 (by decide) rfl ?_
        refine aw_put X fd_X7_35 fw_X7_0 dX7_knows_27 rfl htg hmo rfl rfl (Nat.le_of_ble_eq_true rfl) ?_
        refine aw_genP (Pr := fun h3 => MoW G h3 tg mo A (nI 1) sm σ) (w0.obj (nI 1) sm σ.v) (fun h1 w1 => ?_)
        clear hmo hlp hls hlf hP hS hF hdd
        obtain ⟨hmo, ⟨hlp, hls, hlf⟩, ⟨hP, hS, hF⟩, -, hdd⟩ := id w1
        refine aw_ald0 X dX7_knows_30 rfl ?_
        refine aw_get X fd_X7_35 dX7_knows_31 rfl hmo rfl ?_
        refine aw_if_ne (n2 := 50) X dX7_knows_34 rfl rfl (fun c34 => ?_) (fun c34 => absurd c34 (by decide))
        refine aw_iconst X (0) dX7_knows_50 (by decide) rfl ?_
        exact aw_iret X hret rfl dX7_knows_51 (PoM.mk (k := 1) (σ2 := σ) (by unfold sp_knows; rw [if_pos (Or.inr ⟨c11, bI_n c19⟩)]) w1)
      · refine aw_iconst X (0) dX7_knows_22 (by decide) rfl ?_
        refine aw_goto (n := 27) X dX7_knows_23 rfl ?_
        refine aw_put X fd_X7_35 fw_X7_0 dX7_knows_27 rfl htg hmo rfl rfl (Nat.le_of_ble_eq_true rfl) ?_
        refine aw_genP (Pr := fun h3 => MoW G h3 tg mo A 0 sm σ) (w0.obj 0 sm σ.v) (fun h1 w1 => ?_)
        clear hmo hlp hls hlf hP hS hF hdd
        obtain ⟨hmo, ⟨hlp, hls, hlf⟩, ⟨hP, hS, hF⟩, -, hdd⟩ := id w1
        refine aw_ald0 X dX7_knows_30 rfl ?_
        refine aw_get X fd_X7_35 dX7_knows_31 rfl hmo rfl ?_
        refine aw_if_ne (n2 := 50) X dX7_knows_34 rfl rfl (fun c34 => absurd rfl c34) (fun c34 => ?_)
        obtain ⟨hxk, hxl⟩ := cat_in (bI_y c6) (show σ.np < 2 ^ 31 by omega)
        refine aw_ald0 X dX7_knows_37 rfl ?_
        refine aw_ild1 X dX7_knows_38 rfl ?_
        refine aw_ild2 X dX7_knows_39 rfl ?_
        refine aw_callV X dX7_knows_40 rfl (k_X7_knowsBehind X.1 htg w1 hv hxk hxl (y := y) (Or.inr ⟨iN y, (cat_in (bI_y c19) (show σ.ns < 2 ^ 31 by omega)).2, (cat_in (bI_y c19) (show σ.ns < 2 ^ 31 by omega)).1⟩)) cmX7_knowsBehind ml_X7_206 rfl hmo rfl rfl (Nat.le_of_ble_eq_true rfl) ⟨Nat.le_of_ble_eq_true rfl, Nat.le_of_ble_eq_true rfl⟩ (fun r h2 hq hf => ?_)
        obtain ⟨rfl, hxA⟩ := hq
        refine aw_if_eq (n2 := 50) X dX7_knows_43 rfl rfl (fun c43 => ?_) (fun c43 => ?_)
        · refine aw_iconst X (0) dX7_knows_50 (by decide) rfl ?_
          exact aw_iret X hret rfl dX7_knows_51 (PoM.mk (k := 0) (σ2 := σ) (by unfold sp_knows; rw [if_neg (fun q => q.elim (fun z => z (bI_y c6)) (fun z => z.2 (bI_y c19))), c43]) (w1.ext hxA))
        · refine aw_iconst X (1) dX7_knows_46 (by decide) rfl ?_
          refine aw_goto (n := 51) X dX7_knows_47 rfl ?_
          exact aw_iret X hret rfl dX7_knows_51 (PoM.mk (k := 0) (σ2 := σ) (by unfold sp_knows; rw [if_neg (fun q => q.elim (fun z => z (bI_y c6)) (fun z => z.2 (bI_y c19))), bI_t (bI_y c43)]) (w1.ext hxA))

set_option maxHeartbeats 4000000 in
set_option maxRecDepth 100000 in
theorem k_X7_ofSceneNow {l : Launch} {s0 : State} {a0 : Array Value} {G : GG} (X : CX l s0 a0 G) {h : AH} {tg mo : Nat} {A : KA} {t : Int32} {sm : Int64} {σ : NS} (htg : tg ≠ 0) (w : MoW G h tg mo A t sm σ) (hv : IV σ) {k : Nat} {x : Int32} (hx : x = nI k) (hk : k < σ.ns) {q9 : Nat} {y : Int32} (hq9 : y = nI q9) (hlt9 : q9 < 9)  : Con l s0 G yX7_ofSceneNow cX7_ofSceneNow 4 (some .int) 6 11 40 tg [.ref mo, .int x, .int y] h (RE (.int (svl (σ.S k) (rX σ.S (cbS σ) (kfS σ.P σ.np) k) y)) h) := by
  refine Con.of X (by decide +kernel) [some (.ref mo), some (.int x), some (.int y), none] rfl (Nat.le_of_ble_eq_true rfl) (fun p e s m below meth c X hnm hret => ?_)
  have w0 := w
  obtain ⟨hmo, ⟨hlp, hls, hlf⟩, ⟨hP, hS, hF⟩, ⟨hn8, hn10, hn12⟩, hdd⟩ := id w
  obtain ⟨hv1, hv2, -⟩ := svl_eq hv hk
  refine aw_ild2 X dX7_ofSceneNow_0 rfl ?_
  refine aw_bipush X (6) dX7_ofSceneNow_1 (by decide) rfl ?_
  refine aw_icmp_ge (n2 := 20) X dX7_ofSceneNow_3 rfl rfl (fun c3 => ?_) (fun c3 => ?_)
  · refine aw_ald0 X dX7_ofSceneNow_20 rfl ?_
    refine aw_ald0 X dX7_ofSceneNow_21 rfl ?_
    refine aw_get X fd_X7_19 dX7_ofSceneNow_22 rfl hmo rfl ?_
    refine aw_callV X dX7_ofSceneNow_25 rfl (k_X7_plot X.1 htg w0 hls.lr hS hn10 hv.k5 hv.dis) cmX7_plot ml_X7_68 rfl hmo rfl rfl (Nat.le_of_ble_eq_true rfl) ⟨Nat.le_of_ble_eq_true rfl, Nat.le_of_ble_eq_true rfl⟩ (fun r h2 hq hf => ?_)
    obtain ⟨q, r, rfl, htb⟩ := hq
    refine aw_ild1 X dX7_ofSceneNow_28 rfl ?_
    refine aw_aald2 X k dX7_ofSceneNow_29 rfl htb.2.1 hx hk (by omega) (if_pos hk) ?_
    refine aw_ast3 X dX7_ofSceneNow_30 rfl (by decide) rfl ?_
    refine aw_ild2 X dX7_ofSceneNow_31 rfl ?_
    refine aw_bipush X (6) dX7_ofSceneNow_32 (by decide) rfl ?_
    refine aw_icmp_ne (n2 := 43) X dX7_ofSceneNow_34 rfl rfl (fun c34 => ?_) (fun c34 => ?_)
    · refine aw_ild2 X dX7_ofSceneNow_43 rfl ?_
      refine aw_bipush X (7) dX7_ofSceneNow_44 (by decide) rfl ?_
      refine aw_icmp_ne (n2 := 63) X dX7_ofSceneNow_46 rfl rfl (fun c46 => ?_) (fun c46 => ?_)
      · refine aw_ald3 X dX7_ofSceneNow_63 rfl ?_
        refine aw_iconst X (1) dX7_ofSceneNow_64 (by decide) rfl ?_
        refine aw_iald X (1) dX7_ofSceneNow_65 rfl (htb.2.2 k hk) rfl (by decide) (by decide) ?_
        have h8 : q9 = 8 := by
          have h6 : 6 ≤ q9 := Nat.le_of_not_lt (fun z => Int32.not_le.mpr (show nI q9 < nI 6 from nI_lt z (by decide)) (by rw [← hq9]; exact c3))
          have n6 : ¬ q9 = 6 := fun z => c34 (by rw [hq9, z]; decide)
          have n7 : ¬ q9 = 7 := fun z => c46 (by rw [hq9, z]; decide)
          omega
        subst h8
        exact aw_iret X hret rfl dX7_ofSceneNow_66 (⟨by rw [hq9, tRow_1, ← hv2]; rfl, htb.1⟩)
      · refine aw_iconst X (2) dX7_ofSceneNow_49 (by decide) rfl ?_
        refine aw_ald3 X dX7_ofSceneNow_50 rfl ?_
        refine aw_iconst X (0) dX7_ofSceneNow_51 (by decide) rfl ?_
        refine aw_iald X (0) dX7_ofSceneNow_52 rfl (htb.2.2 k hk) rfl (by decide) (by decide) ?_
        rw [tRow_0, ← hv1]
        refine aw_sipush X (180) dX7_ofSceneNow_53 (by decide) rfl ?_
        refine aw_idiv X dX7_ofSceneNow_56 (by decide) rfl ?_
        refine aw_mmin X dX7_ofSceneNow_57 rfl ⟨ml_X7_62, mm_min⟩ (Nat.le_of_ble_eq_true rfl) (Nat.le_of_ble_eq_true rfl) ?_
        refine aw_goto (n := 66) X dX7_ofSceneNow_60 rfl ?_
        exact aw_iret X hret rfl dX7_ofSceneNow_66 (⟨by rw [c46]; rfl, htb.1⟩)
    · refine aw_ald3 X dX7_ofSceneNow_37 rfl ?_
      refine aw_iconst X (0) dX7_ofSceneNow_38 (by decide) rfl ?_
      refine aw_iald X (0) dX7_ofSceneNow_39 rfl (htb.2.2 k hk) rfl (by decide) (by decide) ?_
      refine aw_goto (n := 66) X dX7_ofSceneNow_40 rfl ?_
      exact aw_iret X hret rfl dX7_ofSceneNow_66 (⟨by rw [c34, tRow_0, ← hv1]; rfl, htb.1⟩)
  · have h6 : q9 < 6 := Nat.lt_of_not_le (fun z => c3 (by rw [hq9]; exact (show nI 6 ≤ nI q9 from nI_le z (by omega))))
    refine aw_ald0 X dX7_ofSceneNow_6 rfl ?_
    refine aw_get X fd_X7_19 dX7_ofSceneNow_7 rfl hmo rfl ?_
    refine aw_ild1 X dX7_ofSceneNow_10 rfl ?_
    refine aw_callV X dX7_ofSceneNow_11 rfl (k_lget X.1 hls hx hk (hS k hk).1) cmJx4a65c_get_915e3 ml_X7_48 rfl hls.1 rfl rfl (Nat.le_of_ble_eq_true rfl) ⟨Nat.le_of_ble_eq_true rfl, Nat.le_of_ble_eq_true rfl⟩ (aw_rs ?_)
    refine aw_castA X dX7_ofSceneNow_14 rfl (kd := 0) (by decide) cc_X7_52 (hS k hk).2 ?_
    refine aw_ild2 X dX7_ofSceneNow_17 rfl ?_
    refine aw_iald X (q9) dX7_ofSceneNow_18 rfl (hS k hk).2 hq9 h6 (by decide) ?_
    have h9 : q9 = 0 ∨ q9 = 1 ∨ q9 = 2 ∨ q9 = 3 ∨ q9 = 4 ∨ q9 = 5 := by omega
    exact aw_iret X hret rfl dX7_ofSceneNow_19 (⟨by rw [hq9]; rcases h9 with e | e | e | e | e | e <;> (subst e; rfl), fun a c e => e⟩)

set_option maxHeartbeats 4000000 in
set_option maxRecDepth 100000 in
theorem k_X7_ofScene {l : Launch} {s0 : State} {a0 : Array Value} {G : GG} (X : CX l s0 a0 G) {h : AH} {tg mo : Nat} {A : KA} {t : Int32} {sm : Int64} {σ : NS} (htg : tg ≠ 0) (w : MoW G h tg mo A t sm σ) (hv : IV σ) (x : Int32) (y : Int32)  : Con l s0 G yX7_ofScene cX7_ofScene 3 (some .int) 7 11 40 tg [.ref mo, .int x, .int y] h (PoM G tg mo (sp_ofScene σ x y)) := by
  refine Con.of X (by decide +kernel) [some (.ref mo), some (.int x), some (.int y)] rfl (Nat.le_of_ble_eq_true rfl) (fun p e s m below meth c X hnm hret => ?_)
  have w0 := w
  obtain ⟨hmo, ⟨hlp, hls, hlf⟩, ⟨hP, hS, hF⟩, ⟨hn8, hn10, hn12⟩, hdd⟩ := id w
  refine aw_ald0 X dX7_ofScene_0 rfl ?_
  refine aw_iconst X (0) dX7_ofScene_1 (by decide) rfl ?_
  refine aw_put X fd_X7_35 fw_X7_0 dX7_ofScene_2 rfl htg hmo rfl rfl (Nat.le_of_ble_eq_true rfl) ?_
  refine aw_genP (Pr := fun h3 => MoW G h3 tg mo A 0 sm σ) (w0.obj 0 sm σ.v) (fun h1 w1 => ?_)
  clear hmo hlp hls hlf hP hS hF hdd
  obtain ⟨hmo, ⟨hlp, hls, hlf⟩, ⟨hP, hS, hF⟩, -, hdd⟩ := id w1
  refine aw_ald0 X dX7_ofScene_5 rfl ?_
  refine aw_ild1 X dX7_ofScene_6 rfl ?_
  refine aw_callV X dX7_ofScene_7 rfl (k_X7_isScene X.1 w1 _) cmX7_isScene ml_X7_109 rfl hmo rfl rfl (Nat.le_of_ble_eq_true rfl) ⟨Nat.le_of_ble_eq_true rfl, Nat.le_of_ble_eq_true rfl⟩ (aw_rs ?_)
  refine aw_if_ne (n2 := 19) X dX7_ofScene_10 rfl rfl (fun c10 => ?_) (fun c10 => ?_)
  · obtain ⟨hxk, hkf⟩ := cat_in (bI_y c10) (show σ.ns < 2 ^ 31 by omega)
    refine aw_ild2 X dX7_ofScene_19 rfl ?_
    refine aw_iconst X (0) dX7_ofScene_20 (by decide) rfl ?_
    refine aw_bipush X (8) dX7_ofScene_21 (by decide) rfl ?_
    refine aw_callS X dX7_ofScene_23 rfl (k_X7_is X.1 _ _ _) cmX7_is ml_X7_42 rfl rfl (Nat.le_of_ble_eq_true rfl) ⟨Nat.le_of_ble_eq_true rfl, Nat.le_of_ble_eq_true rfl⟩ (aw_rs ?_)
    refine aw_if_eq (n2 := 38) X dX7_ofScene_26 rfl rfl (fun c26 => ?_) (fun c26 => ?_)
    · refine aw_ald0 X dX7_ofScene_38 rfl ?_
      refine aw_iconst X (2) dX7_ofScene_39 (by decide) rfl ?_
      refine aw_callV X dX7_ofScene_40 rfl (k_X7_refuse X.1 htg w1 2) cmX7_refuse ml_X7_93 rfl hmo rfl rfl (Nat.le_of_ble_eq_true rfl) ⟨Nat.le_of_ble_eq_true rfl, Nat.le_of_ble_eq_true rfl⟩ (fun r h2 hq hf => ?_)
      obtain ⟨rfl, hwr⟩ := hq
      exact aw_iret X hret rfl dX7_ofScene_43 (PoM.mk (k := 2) (σ2 := σ) (by unfold sp_ofScene; rw [if_neg (fun q => q (bI_y c10)), if_pos (isN (bI_n c26))]) hwr)
    · obtain ⟨hq9, hlt9⟩ := nI_iN (n := 9) (bI_y c26).1 (Int32.lt_of_le_of_lt (bI_y c26).2 (by decide)) (by decide)
      refine aw_ald0 X dX7_ofScene_29 rfl ?_
      refine aw_ild1 X dX7_ofScene_30 rfl ?_
      refine aw_ild2 X dX7_ofScene_31 rfl ?_
      refine aw_callV X dX7_ofScene_32 rfl (k_X7_ofSceneNow X.1 htg w1 hv hxk hkf hq9 hlt9) cmX7_ofSceneNow ml_X7_212 rfl hmo rfl rfl (Nat.le_of_ble_eq_true rfl) ⟨Nat.le_of_ble_eq_true rfl, Nat.le_of_ble_eq_true rfl⟩ (fun r h2 hq hf => ?_)
      obtain ⟨rfl, hxA⟩ := hq
      refine aw_goto (n := 43) X dX7_ofScene_35 rfl ?_
      exact aw_iret X hret rfl dX7_ofScene_43 (PoM.mk (k := 0) (σ2 := σ) (by unfold sp_ofScene; rw [if_neg (fun q => q (bI_y c10)), if_neg (isY (bI_y c26))]) (by exact w1.ext hxA))
  · refine aw_ald0 X dX7_ofScene_13 rfl ?_
    refine aw_iconst X (1) dX7_ofScene_14 (by decide) rfl ?_
    refine aw_callV X dX7_ofScene_15 rfl (k_X7_refuse X.1 htg w1 1) cmX7_refuse ml_X7_93 rfl hmo rfl rfl (Nat.le_of_ble_eq_true rfl) ⟨Nat.le_of_ble_eq_true rfl, Nat.le_of_ble_eq_true rfl⟩ (fun r h2 hq hf => ?_)
    obtain ⟨rfl, hwr⟩ := hq
    exact aw_iret X hret rfl dX7_ofScene_18 (PoM.mk (k := 1) (σ2 := σ) (by unfold sp_ofScene; rw [if_pos (bI_n c10)]) hwr)

/-- a row of sixteen is none of the world's -/
theorem MoW.row {G : GG} {h : AH} {tg mo : Nat} {A : KA} {t : Int32} {sm : Int64} {σ : NS} (w : MoW G h tg mo A t sm σ) {z tz N : Nat} {r : Nat → Int32} {c : AC} (hN : N ≠ 6) (hz : h z = some (tz, oRow N r)) : MoW G (hu h z c) tg mo A t sm σ := by
  obtain ⟨h1, ⟨a1, a2, a3⟩, ⟨b1, b2, b3⟩, h4⟩ := w
  have hk : ∀ a d, h a = some d → kd d.2 ≠ 100 → hu h z c a = some d := fun a d e n => (hu_n (kk_ne e hz n)).trans e
  have hr : ∀ {n : Nat} {g : Nat → Option Nat} {fa : Nat → Nat} {F : Nat → Nat → Int32}, RwW h tg n g fa F → RwW (hu h z c) tg n g fa F := fun {n g fa F} b k hk2 => ⟨(b k hk2).1, (hu_n (ne_at (b k hk2).2 hz (fun e => by
    cases e
    exact hN rfl))).trans (b k hk2).2⟩
  exact ⟨hk _ _ h1 (show (9 : Nat) ≠ 100 by decide), ⟨a1.keptK (fun a d e q => hk a d e (by omega)), a2.keptK (fun a d e q => hk a d e (by omega)), a3.keptK (fun a d e q => hk a d e (by omega))⟩, ⟨hr b1, hr b2, hr b3⟩, h4⟩
theorem and_m1 (x : Int32) : x = x &&& (0 ^^^ (-1)) := by
  refine b_ext (fun i hi => ?_)
  rw [b_and, b_xor, b_0, b_m1 i hi]
  simp
theorem str_0 {σ : NS} (h : onS σ = -1) : setF σ.F σ.nf = strS σ := by
  unfold strS castOn
  rw [if_pos h]
  exact and_m1 _
theorem str_1 {σ : NS} {k : Nat} (h : ¬ onS σ = -1) (hon : onS σ = nI k) (hk : k < 2 ^ 31) : setF σ.F σ.nf &&& (σ.S k 2 ^^^ (-1)) = strS σ := by
  unfold strS castOn
  rw [if_neg h, hon, iN_nI hk]
theorem q16c {q : Nat} (h : q < 16) : q = 0 ∨ q = 1 ∨ q = 2 ∨ q = 3 ∨ q = 4 ∨ q = 5 ∨ q = 6 ∨ q = 7 ∨ q = 8 ∨ q = 9 ∨ q = 10 ∨ q = 11 ∨ q = 12 ∨ q = 13 ∨ q = 14 ∨ q = 15 := by omega

set_option maxHeartbeats 4000000 in
set_option maxRecDepth 100000 in
theorem k_X7_manyNow {l : Launch} {s0 : State} {a0 : Array Value} {G : GG} (X : CX l s0 a0 G) {h : AH} {tg mo : Nat} {A : KA} {t : Int32} {sm : Int64} {σ : NS} (htg : tg ≠ 0) (w : MoW G h tg mo A t sm σ) (hv : IV σ) {q9 : Nat} {x : Int32} (hq9 : x = nI q9) (hlt9 : q9 < 16)  : Con l s0 G yX7_manyNow cX7_manyNow 5 (some .int) 7 15 68 tg [.ref mo, .int x] h (RE (.int (manS σ x)) h) := by
  refine Con.of X (by decide +kernel) [some (.ref mo), some (.int x), none, none, none] rfl (Nat.le_of_ble_eq_true rfl) (fun p e s m below meth c X hnm hret => ?_)
  have w0 := w
  obtain ⟨hmo, ⟨hlp, hls, hlf⟩, ⟨hP, hS, hF⟩, ⟨hn8, hn10, hn12⟩, hdd⟩ := id w
  refine aw_ald0 X dX7_manyNow_0 rfl ?_
  refine aw_callV X dX7_manyNow_1 rfl (k_X7_people X.1 htg w0) cmX7_people ml_X7_188 rfl hmo rfl rfl (Nat.le_of_ble_eq_true rfl) ⟨Nat.le_of_ble_eq_true rfl, Nat.le_of_ble_eq_true rfl⟩ (fun r h2 hq hf => ?_)
  obtain ⟨rfl, hxA⟩ := hq
  have wA := w0.ext hxA
  clear hmo hlp hls hlf hP hS hF hdd
  obtain ⟨hmo, ⟨hlp, hls, hlf⟩, ⟨hP, hS, hF⟩, -, hdd⟩ := id wA
  refine aw_ist2 X dX7_manyNow_4 rfl (by decide) rfl ?_
  refine aw_ald0 X dX7_manyNow_5 rfl ?_
  refine aw_callV X dX7_manyNow_6 rfl (k_X7_on X.1 wA) cmX7_on ml_X7_155 rfl hmo rfl rfl (Nat.le_of_ble_eq_true rfl) ⟨Nat.le_of_ble_eq_true rfl, Nat.le_of_ble_eq_true rfl⟩ (aw_rs ?_)
  refine aw_ist3 X dX7_manyNow_9 rfl (by decide) rfl ?_
  refine aw_bipush X (16) dX7_manyNow_10 (by decide) rfl ?_
  refine aw_newi X dX7_manyNow_12 rfl (show (16 : Int32) = nI 16 by decide) (by decide) ac_int (fun q12 hq12 => ?_)
  refine aw_genP (Pr := fun h3 => MoW G h3 tg mo A t sm σ ∧ h3 q12 = some (tg, oRow 16 (fun _ => 0)) ∧ ∀ a c, h a = some c → h3 a = some c) ⟨wA.ext (fun a c e => hu_k hq12 e), hu_s, (fun a c e => hu_k hq12 (hxA a c e))⟩ (fun hB wpB => ?_)
  obtain ⟨wB, hrB, hxB⟩ := wpB
  clear hmo hlp hls hlf hP hS hF hdd
  obtain ⟨hmo, ⟨hlp, hls, hlf⟩, ⟨hP, hS, hF⟩, -, hdd⟩ := id wB
  refine aw_dup X dX7_manyNow_14 rfl rfl ?_
  refine aw_iconst X (0) dX7_manyNow_15 (by decide) rfl ?_
  refine aw_ald0 X dX7_manyNow_16 rfl ?_
  refine aw_get X fd_X7_86 dX7_manyNow_17 rfl hmo rfl ?_
  refine aw_iast X (0) dX7_manyNow_20 rfl htg hrB rfl (by decide) (by decide) ?_
  refine aw_genP (Pr := fun h3 => MoW G h3 tg mo A t sm σ ∧ h3 q12 = some (tg, oRow 16 (upd (fun _ => 0) 0 σ.mi)) ∧ ∀ a c, h a = some c → h3 a = some c) ⟨wB.row (by decide) hrB, hu_s, (fun a c e => (hu_n (nn_ne (hxA a c e) hq12)).trans (hxB a c e))⟩ (fun hC wpC => ?_)
  obtain ⟨wC, hrC, hxC⟩ := wpC
  clear hmo hlp hls hlf hP hS hF hdd
  obtain ⟨hmo, ⟨hlp, hls, hlf⟩, ⟨hP, hS, hF⟩, -, hdd⟩ := id wC
  refine aw_dup X dX7_manyNow_21 rfl rfl ?_
  refine aw_iconst X (1) dX7_manyNow_22 (by decide) rfl ?_
  refine aw_ald0 X dX7_manyNow_23 rfl ?_
  refine aw_get X fd_X7_10 dX7_manyNow_24 rfl hmo rfl ?_
  refine aw_callV X dX7_manyNow_27 rfl (k_size X.1 hlp) cmJx4a65c_size_8abf5 ml_X7_38 rfl hlp.1 rfl rfl (Nat.le_of_ble_eq_true rfl) ⟨Nat.le_of_ble_eq_true rfl, Nat.le_of_ble_eq_true rfl⟩ (aw_rs ?_)
  refine aw_iast X (1) dX7_manyNow_30 rfl htg hrC rfl (by decide) (by decide) ?_
  refine aw_genP (Pr := fun h3 => MoW G h3 tg mo A t sm σ ∧ h3 q12 = some (tg, oRow 16 (upd (upd (fun _ => 0) 0 σ.mi) 1 (nI σ.np))) ∧ ∀ a c, h a = some c → h3 a = some c) ⟨wC.row (by decide) hrC, hu_s, (fun a c e => (hu_n (nn_ne (hxA a c e) hq12)).trans (hxC a c e))⟩ (fun hD wpD => ?_)
  obtain ⟨wD, hrD, hxD⟩ := wpD
  clear hmo hlp hls hlf hP hS hF hdd
  obtain ⟨hmo, ⟨hlp, hls, hlf⟩, ⟨hP, hS, hF⟩, -, hdd⟩ := id wD
  refine aw_dup X dX7_manyNow_31 rfl rfl ?_
  refine aw_iconst X (2) dX7_manyNow_32 (by decide) rfl ?_
  refine aw_ald0 X dX7_manyNow_33 rfl ?_
  refine aw_get X fd_X7_16 dX7_manyNow_34 rfl hmo rfl ?_
  refine aw_callV X dX7_manyNow_37 rfl (k_size X.1 hlf) cmJx4a65c_size_8abf5 ml_X7_38 rfl hlf.1 rfl rfl (Nat.le_of_ble_eq_true rfl) ⟨Nat.le_of_ble_eq_true rfl, Nat.le_of_ble_eq_true rfl⟩ (aw_rs ?_)
  refine aw_iast X (2) dX7_manyNow_40 rfl htg hrD rfl (by decide) (by decide) ?_
  refine aw_genP (Pr := fun h3 => MoW G h3 tg mo A t sm σ ∧ h3 q12 = some (tg, oRow 16 (upd (upd (upd (fun _ => 0) 0 σ.mi) 1 (nI σ.np)) 2 (nI σ.nf))) ∧ ∀ a c, h a = some c → h3 a = some c) ⟨wD.row (by decide) hrD, hu_s, (fun a c e => (hu_n (nn_ne (hxA a c e) hq12)).trans (hxD a c e))⟩ (fun hE wpE => ?_)
  obtain ⟨wE, hrE, hxE⟩ := wpE
  clear hmo hlp hls hlf hP hS hF hdd
  obtain ⟨hmo, ⟨hlp, hls, hlf⟩, ⟨hP, hS, hF⟩, -, hdd⟩ := id wE
  refine aw_dup X dX7_manyNow_41 rfl rfl ?_
  refine aw_iconst X (3) dX7_manyNow_42 (by decide) rfl ?_
  refine aw_ald0 X dX7_manyNow_43 rfl ?_
  refine aw_get X fd_X7_19 dX7_manyNow_44 rfl hmo rfl ?_
  refine aw_callV X dX7_manyNow_47 rfl (k_size X.1 hls) cmJx4a65c_size_8abf5 ml_X7_38 rfl hls.1 rfl rfl (Nat.le_of_ble_eq_true rfl) ⟨Nat.le_of_ble_eq_true rfl, Nat.le_of_ble_eq_true rfl⟩ (aw_rs ?_)
  refine aw_iast X (3) dX7_manyNow_50 rfl htg hrE rfl (by decide) (by decide) ?_
  refine aw_genP (Pr := fun h3 => MoW G h3 tg mo A t sm σ ∧ h3 q12 = some (tg, oRow 16 (upd (upd (upd (upd (fun _ => 0) 0 σ.mi) 1 (nI σ.np)) 2 (nI σ.nf)) 3 (nI σ.ns))) ∧ ∀ a c, h a = some c → h3 a = some c) ⟨wE.row (by decide) hrE, hu_s, (fun a c e => (hu_n (nn_ne (hxA a c e) hq12)).trans (hxE a c e))⟩ (fun hFx wpFx => ?_)
  obtain ⟨wFx, hrFx, hxFx⟩ := wpFx
  clear hmo hlp hls hlf hP hS hF hdd
  obtain ⟨hmo, ⟨hlp, hls, hlf⟩, ⟨hP, hS, hF⟩, -, hdd⟩ := id wFx
  refine aw_dup X dX7_manyNow_51 rfl rfl ?_
  refine aw_iconst X (4) dX7_manyNow_52 (by decide) rfl ?_
  refine aw_ald0 X dX7_manyNow_53 rfl ?_
  refine aw_callV X dX7_manyNow_54 rfl (k_X7_over X.1 htg wFx) cmX7_over ml_X7_218 rfl hmo rfl rfl (Nat.le_of_ble_eq_true rfl) ⟨Nat.le_of_ble_eq_true rfl, Nat.le_of_ble_eq_true rfl⟩ (fun r h2 hq hf => ?_)
  obtain ⟨rfl, hxcG1⟩ := hq
  have wcG1 := wFx.ext hxcG1
  have hrcG1 := hxcG1 _ _ hrFx
  clear hmo hlp hls hlf hP hS hF hdd
  obtain ⟨hmo, ⟨hlp, hls, hlf⟩, ⟨hP, hS, hF⟩, -, hdd⟩ := id wcG1
  refine aw_iast X (4) dX7_manyNow_57 rfl htg hrcG1 rfl (by decide) (by decide) ?_
  refine aw_genP (Pr := fun h3 => MoW G h3 tg mo A t sm σ ∧ h3 q12 = some (tg, oRow 16 (upd (upd (upd (upd (upd (fun _ => 0) 0 σ.mi) 1 (nI σ.np)) 2 (nI σ.nf)) 3 (nI σ.ns)) 4 (rB σ.S σ.ns))) ∧ ∀ a c, h a = some c → h3 a = some c) ⟨wcG1.row (by decide) hrcG1, hu_s, (fun a c e => (hu_n (nn_ne (hxA a c e) hq12)).trans (hxcG1 a c (hxFx a c e)))⟩ (fun hH wpH => ?_)
  obtain ⟨wH, hrH, hxH⟩ := wpH
  clear hmo hlp hls hlf hP hS hF hdd
  obtain ⟨hmo, ⟨hlp, hls, hlf⟩, ⟨hP, hS, hF⟩, -, hdd⟩ := id wH
  refine aw_dup X dX7_manyNow_58 rfl rfl ?_
  refine aw_iconst X (5) dX7_manyNow_59 (by decide) rfl ?_
  refine aw_ald0 X dX7_manyNow_60 rfl ?_
  refine aw_ald0 X dX7_manyNow_61 rfl ?_
  refine aw_get X fd_X7_19 dX7_manyNow_62 rfl hmo rfl ?_
  refine aw_callV X dX7_manyNow_65 rfl (k_X7_breaches X.1 htg wH hls.lr hS hn10 hv.k5 hv.dis) cmX7_breaches ml_X7_116 rfl hmo rfl rfl (Nat.le_of_ble_eq_true rfl) ⟨Nat.le_of_ble_eq_true rfl, Nat.le_of_ble_eq_true rfl⟩ (fun r h2 hq hf => ?_)
  obtain ⟨rfl, hxcI⟩ := hq
  have wcI := wH.ext hxcI
  have hrcI := hxcI _ _ hrH
  clear hmo hlp hls hlf hP hS hF hdd
  obtain ⟨hmo, ⟨hlp, hls, hlf⟩, ⟨hP, hS, hF⟩, -, hdd⟩ := id wcI
  rw [mN_eq hv.1.1 hv.sv, ← cbS_mcb]
  refine aw_iast X (5) dX7_manyNow_68 rfl htg hrcI rfl (by decide) (by decide) ?_
  refine aw_genP (Pr := fun h3 => MoW G h3 tg mo A t sm σ ∧ h3 q12 = some (tg, oRow 16 (upd (upd (upd (upd (upd (upd (fun _ => 0) 0 σ.mi) 1 (nI σ.np)) 2 (nI σ.nf)) 3 (nI σ.ns)) 4 (rB σ.S σ.ns)) 5 (rN σ.S (cbS σ) (kfS σ.P σ.np) σ.ns))) ∧ ∀ a c, h a = some c → h3 a = some c) ⟨wcI.row (by decide) hrcI, hu_s, (fun a c e => (hu_n (nn_ne (hxA a c e) hq12)).trans (hxcI a c (hxH a c e)))⟩ (fun hJ wpJ => ?_)
  obtain ⟨wJ, hrJ, hxJ⟩ := wpJ
  clear hmo hlp hls hlf hP hS hF hdd
  obtain ⟨hmo, ⟨hlp, hls, hlf⟩, ⟨hP, hS, hF⟩, -, hdd⟩ := id wJ
  refine aw_dup X dX7_manyNow_69 rfl rfl ?_
  refine aw_bipush X (6) dX7_manyNow_70 (by decide) rfl ?_
  refine aw_ild3 X dX7_manyNow_72 rfl ?_
  refine aw_iast X (6) dX7_manyNow_73 rfl htg hrJ rfl (by decide) (by decide) ?_
  refine aw_genP (Pr := fun h3 => MoW G h3 tg mo A t sm σ ∧ h3 q12 = some (tg, oRow 16 (upd (upd (upd (upd (upd (upd (upd (fun _ => 0) 0 σ.mi) 1 (nI σ.np)) 2 (nI σ.nf)) 3 (nI σ.ns)) 4 (rB σ.S σ.ns)) 5 (rN σ.S (cbS σ) (kfS σ.P σ.np) σ.ns)) 6 (onS σ))) ∧ ∀ a c, h a = some c → h3 a = some c) ⟨wJ.row (by decide) hrJ, hu_s, (fun a c e => (hu_n (nn_ne (hxA a c e) hq12)).trans (hxJ a c e))⟩ (fun hK wpK => ?_)
  obtain ⟨wK, hrK, hxK⟩ := wpK
  clear hmo hlp hls hlf hP hS hF hdd
  obtain ⟨hmo, ⟨hlp, hls, hlf⟩, ⟨hP, hS, hF⟩, -, hdd⟩ := id wK
  refine aw_dup X dX7_manyNow_74 rfl rfl ?_
  refine aw_bipush X (7) dX7_manyNow_75 (by decide) rfl ?_
  refine aw_ild2 X dX7_manyNow_77 rfl ?_
  refine aw_iast X (7) dX7_manyNow_78 rfl htg hrK rfl (by decide) (by decide) ?_
  refine aw_genP (Pr := fun h3 => MoW G h3 tg mo A t sm σ ∧ h3 q12 = some (tg, oRow 16 (upd (upd (upd (upd (upd (upd (upd (upd (fun _ => 0) 0 σ.mi) 1 (nI σ.np)) 2 (nI σ.nf)) 3 (nI σ.ns)) 4 (rB σ.S σ.ns)) 5 (rN σ.S (cbS σ) (kfS σ.P σ.np) σ.ns)) 6 (onS σ)) 7 (setF σ.F σ.nf))) ∧ ∀ a c, h a = some c → h3 a = some c) ⟨wK.row (by decide) hrK, hu_s, (fun a c e => (hu_n (nn_ne (hxA a c e) hq12)).trans (hxK a c e))⟩ (fun hL wpL => ?_)
  obtain ⟨wL, hrL, hxL⟩ := wpL
  clear hmo hlp hls hlf hP hS hF hdd
  obtain ⟨hmo, ⟨hlp, hls, hlf⟩, ⟨hP, hS, hF⟩, -, hdd⟩ := id wL
  refine aw_dup X dX7_manyNow_79 rfl rfl ?_
  refine aw_bipush X (8) dX7_manyNow_80 (by decide) rfl ?_
  refine aw_ild3 X dX7_manyNow_82 rfl ?_
  refine aw_iconst X (-1) dX7_manyNow_83 (by decide) rfl ?_
  refine aw_icmp_ne (n2 := 91) X dX7_manyNow_84 rfl rfl (fun c84 => ?_) (fun c84 => ?_)
  · obtain ⟨k, hk, hon⟩ := (on_cases σ).resolve_left c84
    refine aw_ild2 X dX7_manyNow_91 rfl ?_
    refine aw_ald0 X dX7_manyNow_92 rfl ?_
    refine aw_get X fd_X7_19 dX7_manyNow_93 rfl hmo rfl ?_
    refine aw_ild3 X dX7_manyNow_96 rfl ?_
    refine aw_callV X dX7_manyNow_97 rfl (k_lget X.1 hls hon hk (hS k hk).1) cmJx4a65c_get_915e3 ml_X7_48 rfl hls.1 rfl rfl (Nat.le_of_ble_eq_true rfl) ⟨Nat.le_of_ble_eq_true rfl, Nat.le_of_ble_eq_true rfl⟩ (aw_rs ?_)
    refine aw_castA X dX7_manyNow_100 rfl (kd := 0) (by decide) cc_X7_52 (hS k hk).2 ?_
    refine aw_iconst X (2) dX7_manyNow_103 (by decide) rfl ?_
    refine aw_iald X (2) dX7_manyNow_104 rfl (hS k hk).2 rfl (by decide) (by decide) ?_
    refine aw_iconst X (-1) dX7_manyNow_105 (by decide) rfl ?_
    refine aw_ixor X dX7_manyNow_106 rfl ?_
    refine aw_iand X dX7_manyNow_107 rfl ?_
    rw [str_1 c84 hon (by omega)]
    refine aw_iast X (8) dX7_manyNow_108 rfl htg hrL rfl (by decide) (by decide) ?_
    refine aw_genP (Pr := fun h3 => MoW G h3 tg mo A t sm σ ∧ h3 q12 = some (tg, oRow 16 (upd (upd (upd (upd (upd (upd (upd (upd (upd (fun _ => 0) 0 σ.mi) 1 (nI σ.np)) 2 (nI σ.nf)) 3 (nI σ.ns)) 4 (rB σ.S σ.ns)) 5 (rN σ.S (cbS σ) (kfS σ.P σ.np) σ.ns)) 6 (onS σ)) 7 (setF σ.F σ.nf)) 8 (strS σ))) ∧ ∀ a c, h a = some c → h3 a = some c) ⟨wL.row (by decide) hrL, hu_s, (fun a c e => (hu_n (nn_ne (hxA a c e) hq12)).trans (hxL a c e))⟩ (fun hM wpM => ?_)
    obtain ⟨wM, hrM, hxM⟩ := wpM
    clear hmo hlp hls hlf hP hS hF hdd
    obtain ⟨hmo, ⟨hlp, hls, hlf⟩, ⟨hP, hS, hF⟩, -, hdd⟩ := id wM
    refine aw_dup X dX7_manyNow_109 rfl rfl ?_
    refine aw_bipush X (9) dX7_manyNow_110 (by decide) rfl ?_
    refine aw_ald0 X dX7_manyNow_112 rfl ?_
    refine aw_get X fd_X7_185 dX7_manyNow_113 rfl hmo rfl ?_
    refine aw_iast X (9) dX7_manyNow_116 rfl htg hrM rfl (by decide) (by decide) ?_
    refine aw_genP (Pr := fun h3 => MoW G h3 tg mo A t sm σ ∧ h3 q12 = some (tg, oRow 16 (upd (upd (upd (upd (upd (upd (upd (upd (upd (upd (fun _ => 0) 0 σ.mi) 1 (nI σ.np)) 2 (nI σ.nf)) 3 (nI σ.ns)) 4 (rB σ.S σ.ns)) 5 (rN σ.S (cbS σ) (kfS σ.P σ.np) σ.ns)) 6 (onS σ)) 7 (setF σ.F σ.nf)) 8 (strS σ)) 9 σ.ti)) ∧ ∀ a c, h a = some c → h3 a = some c) ⟨wM.row (by decide) hrM, hu_s, (fun a c e => (hu_n (nn_ne (hxA a c e) hq12)).trans (hxM a c e))⟩ (fun hN wpN => ?_)
    obtain ⟨wN, hrN, hxN⟩ := wpN
    clear hmo hlp hls hlf hP hS hF hdd
    obtain ⟨hmo, ⟨hlp, hls, hlf⟩, ⟨hP, hS, hF⟩, -, hdd⟩ := id wN
    refine aw_dup X dX7_manyNow_117 rfl rfl ?_
    refine aw_bipush X (10) dX7_manyNow_118 (by decide) rfl ?_
    refine aw_ald0 X dX7_manyNow_120 rfl ?_
    refine aw_get X fd_X7_32 dX7_manyNow_121 rfl hmo rfl ?_
    refine aw_iast X (10) dX7_manyNow_124 rfl htg hrN rfl (by decide) (by decide) ?_
    refine aw_genP (Pr := fun h3 => MoW G h3 tg mo A t sm σ ∧ h3 q12 = some (tg, oRow 16 (upd (upd (upd (upd (upd (upd (upd (upd (upd (upd (upd (fun _ => 0) 0 σ.mi) 1 (nI σ.np)) 2 (nI σ.nf)) 3 (nI σ.ns)) 4 (rB σ.S σ.ns)) 5 (rN σ.S (cbS σ) (kfS σ.P σ.np) σ.ns)) 6 (onS σ)) 7 (setF σ.F σ.nf)) 8 (strS σ)) 9 σ.ti) 10 σ.be)) ∧ ∀ a c, h a = some c → h3 a = some c) ⟨wN.row (by decide) hrN, hu_s, (fun a c e => (hu_n (nn_ne (hxA a c e) hq12)).trans (hxN a c e))⟩ (fun hO wpO => ?_)
    obtain ⟨wO, hrO, hxO⟩ := wpO
    clear hmo hlp hls hlf hP hS hF hdd
    obtain ⟨hmo, ⟨hlp, hls, hlf⟩, ⟨hP, hS, hF⟩, -, hdd⟩ := id wO
    refine aw_dup X dX7_manyNow_125 rfl rfl ?_
    refine aw_bipush X (11) dX7_manyNow_126 (by decide) rfl ?_
    refine aw_ald0 X dX7_manyNow_128 rfl ?_
    refine aw_get X fd_X7_158 dX7_manyNow_129 rfl hmo rfl ?_
    refine aw_iast X (11) dX7_manyNow_132 rfl htg hrO rfl (by decide) (by decide) ?_
    refine aw_genP (Pr := fun h3 => MoW G h3 tg mo A t sm σ ∧ h3 q12 = some (tg, oRow 16 (upd (upd (upd (upd (upd (upd (upd (upd (upd (upd (upd (upd (fun _ => 0) 0 σ.mi) 1 (nI σ.np)) 2 (nI σ.nf)) 3 (nI σ.ns)) 4 (rB σ.S σ.ns)) 5 (rN σ.S (cbS σ) (kfS σ.P σ.np) σ.ns)) 6 (onS σ)) 7 (setF σ.F σ.nf)) 8 (strS σ)) 9 σ.ti) 10 σ.be) 11 σ.ms)) ∧ ∀ a c, h a = some c → h3 a = some c) ⟨wO.row (by decide) hrO, hu_s, (fun a c e => (hu_n (nn_ne (hxA a c e) hq12)).trans (hxO a c e))⟩ (fun hPx wpPx => ?_)
    obtain ⟨wPx, hrPx, hxPx⟩ := wpPx
    clear hmo hlp hls hlf hP hS hF hdd
    obtain ⟨hmo, ⟨hlp, hls, hlf⟩, ⟨hP, hS, hF⟩, -, hdd⟩ := id wPx
    refine aw_dup X dX7_manyNow_133 rfl rfl ?_
    refine aw_bipush X (12) dX7_manyNow_134 (by decide) rfl ?_
    refine aw_ald0 X dX7_manyNow_136 rfl ?_
    refine aw_get X fd_X7_191 dX7_manyNow_137 rfl hmo rfl ?_
    refine aw_iast X (12) dX7_manyNow_140 rfl htg hrPx rfl (by decide) (by decide) ?_
    refine aw_genP (Pr := fun h3 => MoW G h3 tg mo A t sm σ ∧ h3 q12 = some (tg, oRow 16 (upd (upd (upd (upd (upd (upd (upd (upd (upd (upd (upd (upd (upd (fun _ => 0) 0 σ.mi) 1 (nI σ.np)) 2 (nI σ.nf)) 3 (nI σ.ns)) 4 (rB σ.S σ.ns)) 5 (rN σ.S (cbS σ) (kfS σ.P σ.np) σ.ns)) 6 (onS σ)) 7 (setF σ.F σ.nf)) 8 (strS σ)) 9 σ.ti) 10 σ.be) 11 σ.ms) 12 σ.sl)) ∧ ∀ a c, h a = some c → h3 a = some c) ⟨wPx.row (by decide) hrPx, hu_s, (fun a c e => (hu_n (nn_ne (hxA a c e) hq12)).trans (hxPx a c e))⟩ (fun hQ wpQ => ?_)
    obtain ⟨wQ, hrQ, hxQ⟩ := wpQ
    clear hmo hlp hls hlf hP hS hF hdd
    obtain ⟨hmo, ⟨hlp, hls, hlf⟩, ⟨hP, hS, hF⟩, -, hdd⟩ := id wQ
    refine aw_dup X dX7_manyNow_141 rfl rfl ?_
    refine aw_bipush X (13) dX7_manyNow_142 (by decide) rfl ?_
    refine aw_ald0 X dX7_manyNow_144 rfl ?_
    refine aw_get X fd_X7_203 dX7_manyNow_145 rfl hmo rfl ?_
    refine aw_iast X (13) dX7_manyNow_148 rfl htg hrQ rfl (by decide) (by decide) ?_
    refine aw_genP (Pr := fun h3 => MoW G h3 tg mo A t sm σ ∧ h3 q12 = some (tg, oRow 16 (upd (upd (upd (upd (upd (upd (upd (upd (upd (upd (upd (upd (upd (upd (fun _ => 0) 0 σ.mi) 1 (nI σ.np)) 2 (nI σ.nf)) 3 (nI σ.ns)) 4 (rB σ.S σ.ns)) 5 (rN σ.S (cbS σ) (kfS σ.P σ.np) σ.ns)) 6 (onS σ)) 7 (setF σ.F σ.nf)) 8 (strS σ)) 9 σ.ti) 10 σ.be) 11 σ.ms) 12 σ.sl) 13 σ.off)) ∧ ∀ a c, h a = some c → h3 a = some c) ⟨wQ.row (by decide) hrQ, hu_s, (fun a c e => (hu_n (nn_ne (hxA a c e) hq12)).trans (hxQ a c e))⟩ (fun hR wpR => ?_)
    obtain ⟨wR, hrR, hxR⟩ := wpR
    clear hmo hlp hls hlf hP hS hF hdd
    obtain ⟨hmo, ⟨hlp, hls, hlf⟩, ⟨hP, hS, hF⟩, -, hdd⟩ := id wR
    refine aw_dup X dX7_manyNow_149 rfl rfl ?_
    refine aw_bipush X (14) dX7_manyNow_150 (by decide) rfl ?_
    refine aw_ald0 X dX7_manyNow_152 rfl ?_
    refine aw_get X fd_X7_179 dX7_manyNow_153 rfl hmo rfl ?_
    refine aw_iast X (14) dX7_manyNow_156 rfl htg hrR rfl (by decide) (by decide) ?_
    refine aw_genP (Pr := fun h3 => MoW G h3 tg mo A t sm σ ∧ h3 q12 = some (tg, oRow 16 (upd (upd (upd (upd (upd (upd (upd (upd (upd (upd (upd (upd (upd (upd (upd (fun _ => 0) 0 σ.mi) 1 (nI σ.np)) 2 (nI σ.nf)) 3 (nI σ.ns)) 4 (rB σ.S σ.ns)) 5 (rN σ.S (cbS σ) (kfS σ.P σ.np) σ.ns)) 6 (onS σ)) 7 (setF σ.F σ.nf)) 8 (strS σ)) 9 σ.ti) 10 σ.be) 11 σ.ms) 12 σ.sl) 13 σ.off) 14 (σ.o 4))) ∧ ∀ a c, h a = some c → h3 a = some c) ⟨wR.row (by decide) hrR, hu_s, (fun a c e => (hu_n (nn_ne (hxA a c e) hq12)).trans (hxR a c e))⟩ (fun hSx wpSx => ?_)
    obtain ⟨wSx, hrSx, hxSx⟩ := wpSx
    clear hmo hlp hls hlf hP hS hF hdd
    obtain ⟨hmo, ⟨hlp, hls, hlf⟩, ⟨hP, hS, hF⟩, -, hdd⟩ := id wSx
    refine aw_dup X dX7_manyNow_157 rfl rfl ?_
    refine aw_bipush X (15) dX7_manyNow_158 (by decide) rfl ?_
    refine aw_ald0 X dX7_manyNow_160 rfl ?_
    refine aw_callV X dX7_manyNow_161 rfl (k_X7_onScreen X.1 htg wSx) cmX7_onScreen ml_X7_152 rfl hmo rfl rfl (Nat.le_of_ble_eq_true rfl) ⟨Nat.le_of_ble_eq_true rfl, Nat.le_of_ble_eq_true rfl⟩ (fun r h2 hq hf => ?_)
    obtain ⟨rfl, hxcT⟩ := hq
    have wcT := wSx.ext hxcT
    have hrcT := hxcT _ _ hrSx
    clear hmo hlp hls hlf hP hS hF hdd
    obtain ⟨hmo, ⟨hlp, hls, hlf⟩, ⟨hP, hS, hF⟩, -, hdd⟩ := id wcT
    refine aw_iast X (15) dX7_manyNow_164 rfl htg hrcT rfl (by decide) (by decide) ?_
    refine aw_genP (Pr := fun h3 => MoW G h3 tg mo A t sm σ ∧ h3 q12 = some (tg, oRow 16 (upd (upd (upd (upd (upd (upd (upd (upd (upd (upd (upd (upd (upd (upd (upd (upd (fun _ => 0) 0 σ.mi) 1 (nI σ.np)) 2 (nI σ.nf)) 3 (nI σ.ns)) 4 (rB σ.S σ.ns)) 5 (rN σ.S (cbS σ) (kfS σ.P σ.np) σ.ns)) 6 (onS σ)) 7 (setF σ.F σ.nf)) 8 (strS σ)) 9 σ.ti) 10 σ.be) 11 σ.ms) 12 σ.sl) 13 σ.off) 14 (σ.o 4)) 15 (cntF σ.F σ.nf))) ∧ ∀ a c, h a = some c → h3 a = some c) ⟨wcT.row (by decide) hrcT, hu_s, (fun a c e => (hu_n (nn_ne (hxA a c e) hq12)).trans (hxcT a c (hxSx a c e)))⟩ (fun hU wpU => ?_)
    obtain ⟨wU, hrU, hxU⟩ := wpU
    clear hmo hlp hls hlf hP hS hF hdd
    obtain ⟨hmo, ⟨hlp, hls, hlf⟩, ⟨hP, hS, hF⟩, -, hdd⟩ := id wU
    refine aw_ast4 X dX7_manyNow_165 rfl (by decide) rfl ?_
    refine aw_ald4 X dX7_manyNow_167 rfl ?_
    refine aw_ild1 X dX7_manyNow_169 rfl ?_
    refine aw_iald X (q9) dX7_manyNow_170 rfl hrU hq9 hlt9 (by decide) ?_
    exact aw_iret X hret rfl dX7_manyNow_171 (⟨by rcases q16c hlt9 with e | e | e | e | e | e | e | e | e | e | e | e | e | e | e | e <;> (subst e; rw [hq9]; rfl), hxU⟩)
  · refine aw_ild2 X dX7_manyNow_87 rfl ?_
    refine aw_goto (n := 108) X dX7_manyNow_88 rfl ?_
    rw [str_0 c84]
    refine aw_iast X (8) dX7_manyNow_108 rfl htg hrL rfl (by decide) (by decide) ?_
    refine aw_genP (Pr := fun h3 => MoW G h3 tg mo A t sm σ ∧ h3 q12 = some (tg, oRow 16 (upd (upd (upd (upd (upd (upd (upd (upd (upd (fun _ => 0) 0 σ.mi) 1 (nI σ.np)) 2 (nI σ.nf)) 3 (nI σ.ns)) 4 (rB σ.S σ.ns)) 5 (rN σ.S (cbS σ) (kfS σ.P σ.np) σ.ns)) 6 (onS σ)) 7 (setF σ.F σ.nf)) 8 (strS σ))) ∧ ∀ a c, h a = some c → h3 a = some c) ⟨wL.row (by decide) hrL, hu_s, (fun a c e => (hu_n (nn_ne (hxA a c e) hq12)).trans (hxL a c e))⟩ (fun hM wpM => ?_)
    obtain ⟨wM, hrM, hxM⟩ := wpM
    clear hmo hlp hls hlf hP hS hF hdd
    obtain ⟨hmo, ⟨hlp, hls, hlf⟩, ⟨hP, hS, hF⟩, -, hdd⟩ := id wM
    refine aw_dup X dX7_manyNow_109 rfl rfl ?_
    refine aw_bipush X (9) dX7_manyNow_110 (by decide) rfl ?_
    refine aw_ald0 X dX7_manyNow_112 rfl ?_
    refine aw_get X fd_X7_185 dX7_manyNow_113 rfl hmo rfl ?_
    refine aw_iast X (9) dX7_manyNow_116 rfl htg hrM rfl (by decide) (by decide) ?_
    refine aw_genP (Pr := fun h3 => MoW G h3 tg mo A t sm σ ∧ h3 q12 = some (tg, oRow 16 (upd (upd (upd (upd (upd (upd (upd (upd (upd (upd (fun _ => 0) 0 σ.mi) 1 (nI σ.np)) 2 (nI σ.nf)) 3 (nI σ.ns)) 4 (rB σ.S σ.ns)) 5 (rN σ.S (cbS σ) (kfS σ.P σ.np) σ.ns)) 6 (onS σ)) 7 (setF σ.F σ.nf)) 8 (strS σ)) 9 σ.ti)) ∧ ∀ a c, h a = some c → h3 a = some c) ⟨wM.row (by decide) hrM, hu_s, (fun a c e => (hu_n (nn_ne (hxA a c e) hq12)).trans (hxM a c e))⟩ (fun hN wpN => ?_)
    obtain ⟨wN, hrN, hxN⟩ := wpN
    clear hmo hlp hls hlf hP hS hF hdd
    obtain ⟨hmo, ⟨hlp, hls, hlf⟩, ⟨hP, hS, hF⟩, -, hdd⟩ := id wN
    refine aw_dup X dX7_manyNow_117 rfl rfl ?_
    refine aw_bipush X (10) dX7_manyNow_118 (by decide) rfl ?_
    refine aw_ald0 X dX7_manyNow_120 rfl ?_
    refine aw_get X fd_X7_32 dX7_manyNow_121 rfl hmo rfl ?_
    refine aw_iast X (10) dX7_manyNow_124 rfl htg hrN rfl (by decide) (by decide) ?_
    refine aw_genP (Pr := fun h3 => MoW G h3 tg mo A t sm σ ∧ h3 q12 = some (tg, oRow 16 (upd (upd (upd (upd (upd (upd (upd (upd (upd (upd (upd (fun _ => 0) 0 σ.mi) 1 (nI σ.np)) 2 (nI σ.nf)) 3 (nI σ.ns)) 4 (rB σ.S σ.ns)) 5 (rN σ.S (cbS σ) (kfS σ.P σ.np) σ.ns)) 6 (onS σ)) 7 (setF σ.F σ.nf)) 8 (strS σ)) 9 σ.ti) 10 σ.be)) ∧ ∀ a c, h a = some c → h3 a = some c) ⟨wN.row (by decide) hrN, hu_s, (fun a c e => (hu_n (nn_ne (hxA a c e) hq12)).trans (hxN a c e))⟩ (fun hO wpO => ?_)
    obtain ⟨wO, hrO, hxO⟩ := wpO
    clear hmo hlp hls hlf hP hS hF hdd
    obtain ⟨hmo, ⟨hlp, hls, hlf⟩, ⟨hP, hS, hF⟩, -, hdd⟩ := id wO
    refine aw_dup X dX7_manyNow_125 rfl rfl ?_
    refine aw_bipush X (11) dX7_manyNow_126 (by decide) rfl ?_
    refine aw_ald0 X dX7_manyNow_128 rfl ?_
    refine aw_get X fd_X7_158 dX7_manyNow_129 rfl hmo rfl ?_
    refine aw_iast X (11) dX7_manyNow_132 rfl htg hrO rfl (by decide) (by decide) ?_
    refine aw_genP (Pr := fun h3 => MoW G h3 tg mo A t sm σ ∧ h3 q12 = some (tg, oRow 16 (upd (upd (upd (upd (upd (upd (upd (upd (upd (upd (upd (upd (fun _ => 0) 0 σ.mi) 1 (nI σ.np)) 2 (nI σ.nf)) 3 (nI σ.ns)) 4 (rB σ.S σ.ns)) 5 (rN σ.S (cbS σ) (kfS σ.P σ.np) σ.ns)) 6 (onS σ)) 7 (setF σ.F σ.nf)) 8 (strS σ)) 9 σ.ti) 10 σ.be) 11 σ.ms)) ∧ ∀ a c, h a = some c → h3 a = some c) ⟨wO.row (by decide) hrO, hu_s, (fun a c e => (hu_n (nn_ne (hxA a c e) hq12)).trans (hxO a c e))⟩ (fun hPx wpPx => ?_)
    obtain ⟨wPx, hrPx, hxPx⟩ := wpPx
    clear hmo hlp hls hlf hP hS hF hdd
    obtain ⟨hmo, ⟨hlp, hls, hlf⟩, ⟨hP, hS, hF⟩, -, hdd⟩ := id wPx
    refine aw_dup X dX7_manyNow_133 rfl rfl ?_
    refine aw_bipush X (12) dX7_manyNow_134 (by decide) rfl ?_
    refine aw_ald0 X dX7_manyNow_136 rfl ?_
    refine aw_get X fd_X7_191 dX7_manyNow_137 rfl hmo rfl ?_
    refine aw_iast X (12) dX7_manyNow_140 rfl htg hrPx rfl (by decide) (by decide) ?_
    refine aw_genP (Pr := fun h3 => MoW G h3 tg mo A t sm σ ∧ h3 q12 = some (tg, oRow 16 (upd (upd (upd (upd (upd (upd (upd (upd (upd (upd (upd (upd (upd (fun _ => 0) 0 σ.mi) 1 (nI σ.np)) 2 (nI σ.nf)) 3 (nI σ.ns)) 4 (rB σ.S σ.ns)) 5 (rN σ.S (cbS σ) (kfS σ.P σ.np) σ.ns)) 6 (onS σ)) 7 (setF σ.F σ.nf)) 8 (strS σ)) 9 σ.ti) 10 σ.be) 11 σ.ms) 12 σ.sl)) ∧ ∀ a c, h a = some c → h3 a = some c) ⟨wPx.row (by decide) hrPx, hu_s, (fun a c e => (hu_n (nn_ne (hxA a c e) hq12)).trans (hxPx a c e))⟩ (fun hQ wpQ => ?_)
    obtain ⟨wQ, hrQ, hxQ⟩ := wpQ
    clear hmo hlp hls hlf hP hS hF hdd
    obtain ⟨hmo, ⟨hlp, hls, hlf⟩, ⟨hP, hS, hF⟩, -, hdd⟩ := id wQ
    refine aw_dup X dX7_manyNow_141 rfl rfl ?_
    refine aw_bipush X (13) dX7_manyNow_142 (by decide) rfl ?_
    refine aw_ald0 X dX7_manyNow_144 rfl ?_
    refine aw_get X fd_X7_203 dX7_manyNow_145 rfl hmo rfl ?_
    refine aw_iast X (13) dX7_manyNow_148 rfl htg hrQ rfl (by decide) (by decide) ?_
    refine aw_genP (Pr := fun h3 => MoW G h3 tg mo A t sm σ ∧ h3 q12 = some (tg, oRow 16 (upd (upd (upd (upd (upd (upd (upd (upd (upd (upd (upd (upd (upd (upd (fun _ => 0) 0 σ.mi) 1 (nI σ.np)) 2 (nI σ.nf)) 3 (nI σ.ns)) 4 (rB σ.S σ.ns)) 5 (rN σ.S (cbS σ) (kfS σ.P σ.np) σ.ns)) 6 (onS σ)) 7 (setF σ.F σ.nf)) 8 (strS σ)) 9 σ.ti) 10 σ.be) 11 σ.ms) 12 σ.sl) 13 σ.off)) ∧ ∀ a c, h a = some c → h3 a = some c) ⟨wQ.row (by decide) hrQ, hu_s, (fun a c e => (hu_n (nn_ne (hxA a c e) hq12)).trans (hxQ a c e))⟩ (fun hR wpR => ?_)
    obtain ⟨wR, hrR, hxR⟩ := wpR
    clear hmo hlp hls hlf hP hS hF hdd
    obtain ⟨hmo, ⟨hlp, hls, hlf⟩, ⟨hP, hS, hF⟩, -, hdd⟩ := id wR
    refine aw_dup X dX7_manyNow_149 rfl rfl ?_
    refine aw_bipush X (14) dX7_manyNow_150 (by decide) rfl ?_
    refine aw_ald0 X dX7_manyNow_152 rfl ?_
    refine aw_get X fd_X7_179 dX7_manyNow_153 rfl hmo rfl ?_
    refine aw_iast X (14) dX7_manyNow_156 rfl htg hrR rfl (by decide) (by decide) ?_
    refine aw_genP (Pr := fun h3 => MoW G h3 tg mo A t sm σ ∧ h3 q12 = some (tg, oRow 16 (upd (upd (upd (upd (upd (upd (upd (upd (upd (upd (upd (upd (upd (upd (upd (fun _ => 0) 0 σ.mi) 1 (nI σ.np)) 2 (nI σ.nf)) 3 (nI σ.ns)) 4 (rB σ.S σ.ns)) 5 (rN σ.S (cbS σ) (kfS σ.P σ.np) σ.ns)) 6 (onS σ)) 7 (setF σ.F σ.nf)) 8 (strS σ)) 9 σ.ti) 10 σ.be) 11 σ.ms) 12 σ.sl) 13 σ.off) 14 (σ.o 4))) ∧ ∀ a c, h a = some c → h3 a = some c) ⟨wR.row (by decide) hrR, hu_s, (fun a c e => (hu_n (nn_ne (hxA a c e) hq12)).trans (hxR a c e))⟩ (fun hSx wpSx => ?_)
    obtain ⟨wSx, hrSx, hxSx⟩ := wpSx
    clear hmo hlp hls hlf hP hS hF hdd
    obtain ⟨hmo, ⟨hlp, hls, hlf⟩, ⟨hP, hS, hF⟩, -, hdd⟩ := id wSx
    refine aw_dup X dX7_manyNow_157 rfl rfl ?_
    refine aw_bipush X (15) dX7_manyNow_158 (by decide) rfl ?_
    refine aw_ald0 X dX7_manyNow_160 rfl ?_
    refine aw_callV X dX7_manyNow_161 rfl (k_X7_onScreen X.1 htg wSx) cmX7_onScreen ml_X7_152 rfl hmo rfl rfl (Nat.le_of_ble_eq_true rfl) ⟨Nat.le_of_ble_eq_true rfl, Nat.le_of_ble_eq_true rfl⟩ (fun r h2 hq hf => ?_)
    obtain ⟨rfl, hxcT⟩ := hq
    have wcT := wSx.ext hxcT
    have hrcT := hxcT _ _ hrSx
    clear hmo hlp hls hlf hP hS hF hdd
    obtain ⟨hmo, ⟨hlp, hls, hlf⟩, ⟨hP, hS, hF⟩, -, hdd⟩ := id wcT
    refine aw_iast X (15) dX7_manyNow_164 rfl htg hrcT rfl (by decide) (by decide) ?_
    refine aw_genP (Pr := fun h3 => MoW G h3 tg mo A t sm σ ∧ h3 q12 = some (tg, oRow 16 (upd (upd (upd (upd (upd (upd (upd (upd (upd (upd (upd (upd (upd (upd (upd (upd (fun _ => 0) 0 σ.mi) 1 (nI σ.np)) 2 (nI σ.nf)) 3 (nI σ.ns)) 4 (rB σ.S σ.ns)) 5 (rN σ.S (cbS σ) (kfS σ.P σ.np) σ.ns)) 6 (onS σ)) 7 (setF σ.F σ.nf)) 8 (strS σ)) 9 σ.ti) 10 σ.be) 11 σ.ms) 12 σ.sl) 13 σ.off) 14 (σ.o 4)) 15 (cntF σ.F σ.nf))) ∧ ∀ a c, h a = some c → h3 a = some c) ⟨wcT.row (by decide) hrcT, hu_s, (fun a c e => (hu_n (nn_ne (hxA a c e) hq12)).trans (hxcT a c (hxSx a c e)))⟩ (fun hU wpU => ?_)
    obtain ⟨wU, hrU, hxU⟩ := wpU
    clear hmo hlp hls hlf hP hS hF hdd
    obtain ⟨hmo, ⟨hlp, hls, hlf⟩, ⟨hP, hS, hF⟩, -, hdd⟩ := id wU
    refine aw_ast4 X dX7_manyNow_165 rfl (by decide) rfl ?_
    refine aw_ald4 X dX7_manyNow_167 rfl ?_
    refine aw_ild1 X dX7_manyNow_169 rfl ?_
    refine aw_iald X (q9) dX7_manyNow_170 rfl hrU hq9 hlt9 (by decide) ?_
    exact aw_iret X hret rfl dX7_manyNow_171 (⟨by rcases q16c hlt9 with e | e | e | e | e | e | e | e | e | e | e | e | e | e | e | e <;> (subst e; rw [hq9]; rfl), hxU⟩)

set_option maxHeartbeats 4000000 in
set_option maxRecDepth 100000 in
theorem k_X7_many {l : Launch} {s0 : State} {a0 : Array Value} {G : GG} (X : CX l s0 a0 G) {h : AH} {tg mo : Nat} {A : KA} {t : Int32} {sm : Int64} {σ : NS} (htg : tg ≠ 0) (w : MoW G h tg mo A t sm σ) (hv : IV σ) (x : Int32)  : Con l s0 G yX7_many cX7_many 2 (some .int) 8 15 68 tg [.ref mo, .int x] h (PoM G tg mo (sp_many σ x)) := by
  refine Con.of X (by decide +kernel) [some (.ref mo), some (.int x)] rfl (Nat.le_of_ble_eq_true rfl) (fun p e s m below meth c X hnm hret => ?_)
  have w0 := w
  obtain ⟨hmo, ⟨hlp, hls, hlf⟩, ⟨hP, hS, hF⟩, ⟨hn8, hn10, hn12⟩, hdd⟩ := id w
  refine aw_ald0 X dX7_many_0 rfl ?_
  refine aw_iconst X (0) dX7_many_1 (by decide) rfl ?_
  refine aw_put X fd_X7_35 fw_X7_0 dX7_many_2 rfl htg hmo rfl rfl (Nat.le_of_ble_eq_true rfl) ?_
  refine aw_genP (Pr := fun h3 => MoW G h3 tg mo A 0 sm σ) (w0.obj 0 sm σ.v) (fun h1 w1 => ?_)
  clear hmo hlp hls hlf hP hS hF hdd
  obtain ⟨hmo, ⟨hlp, hls, hlf⟩, ⟨hP, hS, hF⟩, -, hdd⟩ := id w1
  refine aw_ild1 X dX7_many_5 rfl ?_
  refine aw_iconst X (0) dX7_many_6 (by decide) rfl ?_
  refine aw_bipush X (15) dX7_many_7 (by decide) rfl ?_
  refine aw_callS X dX7_many_9 rfl (k_X7_is X.1 _ _ _) cmX7_is ml_X7_42 rfl rfl (Nat.le_of_ble_eq_true rfl) ⟨Nat.le_of_ble_eq_true rfl, Nat.le_of_ble_eq_true rfl⟩ (aw_rs ?_)
  refine aw_if_eq (n2 := 23) X dX7_many_12 rfl rfl (fun c12 => ?_) (fun c12 => ?_)
  · refine aw_ald0 X dX7_many_23 rfl ?_
    refine aw_iconst X (1) dX7_many_24 (by decide) rfl ?_
    refine aw_callV X dX7_many_25 rfl (k_X7_refuse X.1 htg w1 1) cmX7_refuse ml_X7_93 rfl hmo rfl rfl (Nat.le_of_ble_eq_true rfl) ⟨Nat.le_of_ble_eq_true rfl, Nat.le_of_ble_eq_true rfl⟩ (fun r h2 hq hf => ?_)
    obtain ⟨rfl, hwr⟩ := hq
    exact aw_iret X hret rfl dX7_many_28 (PoM.mk (k := 1) (σ2 := σ) (by unfold sp_many; rw [if_pos (isN (bI_n c12))]) hwr)
  · obtain ⟨hq9, hlt9⟩ := nI_iN (n := 16) (bI_y c12).1 (Int32.lt_of_le_of_lt (bI_y c12).2 (by decide)) (by decide)
    refine aw_ald0 X dX7_many_15 rfl ?_
    refine aw_ild1 X dX7_many_16 rfl ?_
    refine aw_callV X dX7_many_17 rfl (k_X7_manyNow X.1 htg w1 hv hq9 hlt9) cmX7_manyNow ml_X7_221 rfl hmo rfl rfl (Nat.le_of_ble_eq_true rfl) ⟨Nat.le_of_ble_eq_true rfl, Nat.le_of_ble_eq_true rfl⟩ (fun r h2 hq hf => ?_)
    obtain ⟨rfl, hxA⟩ := hq
    refine aw_goto (n := 28) X dX7_many_20 rfl ?_
    exact aw_iret X hret rfl dX7_many_28 (PoM.mk (k := 0) (σ2 := σ) (by unfold sp_many; rw [if_neg (isY (bI_y c12))]) (by exact w1.ext hxA))
