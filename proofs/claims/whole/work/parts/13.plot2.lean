/-! THE PLOT, ITS CHANGES -/
theorem LI.cap0 {G : GG} {h : AH} {tg L n ed cap : Nat} {g : Nat → Option Nat} {md : Int32} (w : LI G h tg L n g ed cap md) (hc : cap ≠ 0) : (cap = 10 ∨ cap = 15) ∧ h ed = some (tg, oArr cap g) := by
  rcases w.2.2.2 with ⟨e, -⟩ | e
  · exact absurd e hc
  · exact e
theorem LI.ne {G : GG} {h : AH} {tg L n ed cap L2 n2 ed2 cap2 : Nat} {g g2 : Nat → Option Nat} {md md2 : Int32} (w : LI G h tg L n g ed cap md) (w2 : LI G h tg L2 n2 g2 ed2 cap2 md2) (h2 : cap2 ≠ 0) (hne : cap ≠ 0 → ed ≠ ed2) : ed ≠ ed2 := by
  by_cases hc : cap = 0
  · intro e
    obtain ⟨t, h1⟩ := w.arr
    have h3 := (w2.cap0 h2).2
    rw [← e, h1, hc] at h3
    have := congrArg (fun x : Option AC => match x with | some (_, .inl (_, v)) => v.1 | _ => 0) h3
    exact h2 this.symm
  · exact hne hc
theorem k_lset {l : Launch} {s0 : State} {a0 : Array Value} {G : GG} (X : CX l s0 a0 G) {h : AH} {tg L n ed cap k y v tv : Nat} {g : Nat → Option Nat} {md i : Int32} {xv : AE} (htg : tg ≠ 0) (w : LI G h tg L n g ed cap md) (hi : i = nI k) (hk : k < n) (hy : g k = some y) (hv : h v = some (tv, xv)) (ho : OB xv) :
    Con l s0 G yJx4a65c_set_bcc79 cJx4a65c_set_bcc79 4 (some (.object "java/lang/Object")) 2 0 0 tg [.ref L, .int i, .ref v] h (RS (.ref y) (hu h ed (tg, oArr cap (va_up g k (some v))))) := by
  subst hi
  have hc := w.cap
  exact k_Jx4a65c_set_bcc79 X htg w.1 (w.cap0 (by have := w.2.2.1; omega)).2 hk w.2.2.1 (by omega) hy hv ho
def sw (i j k : Nat) : Nat := if k = i then j else if k = j then i else k
theorem sw_sw (i j k : Nat) : sw i j (sw i j k) = k := by
  unfold sw
  by_cases h1 : k = i
  · rw [if_pos h1]
    by_cases h2 : j = i
    · rw [if_pos h2, h2, h1]
    · rw [if_neg h2, if_pos rfl, h1]
  · rw [if_neg h1]
    by_cases h2 : k = j
    · rw [if_pos h2, if_pos rfl, h2]
    · rw [if_neg h2, if_neg h1, if_neg h2]
theorem sw_lt {i j k n : Nat} (hi : i < n) (hj : j < n) (hk : k < n) : sw i j k < n := by
  unfold sw
  split
  · exact hj
  · split
    · exact hi
    · exact hk
theorem ob_scn {s x : Nat → Int32} : OB (cScn s x) := ob_X4
theorem PlW.perm {G : GG} {h : AH} {tg pl Lp edp capp np Ls eds caps ns : Nat} {mdp mds kf br en : Int32} {gp gs : Nat → Option Nat} {pa sa : Nat → Nat} {P S Xc : Nat → Nat → Int32} (htg : tg ≠ 0) (w : PlW G h tg pl Lp edp capp mdp np gp pa P Ls eds caps mds ns gs sa S Xc kf br en) (h0 : 0 < ns) {σ : Nat → Nat} (hσ : ∀ k, k < ns → σ k < ns) (hi : ∀ j k, j < ns → k < ns → σ j = σ k → j = k) {g2 : Nat → Option Nat} (hg : ∀ k, k < ns → g2 k = gs (σ k)) : PlW G (hu h eds (tg, oArr caps g2)) tg pl Lp edp capp mdp np gp pa P Ls eds caps mds ns g2 (fun k => sa (σ k)) (fun k => S (σ k)) (fun k => Xc (σ k)) kf br en := by
  obtain ⟨h1, h2, h3, h4, h5, h6, h7, h8, h9, h10⟩ := w
  have hc : caps ≠ 0 := by have := h3.2.2.1; omega
  have hE := (h3.cap0 hc).2
  refine ⟨(hu_n (ne_at h1 hE (fun e => by cases e))).trans h1, h2.kept (hu_n (ne_at h2.1 hE (fun e => by cases e))) (hu_n (h2.ne h3 hc (fun q => h10 q hc))), ⟨(hu_n h3.2.1).trans h3.1, h3.2.1, h3.2.2.1, Or.inr ⟨(h3.cap0 hc).1, hu_s⟩⟩, fun i hi => ⟨(h4 i hi).1, (hu_n (ne_at (h4 i hi).2 hE (fun e => by cases e))).trans (h4 i hi).2⟩, fun i hi => ⟨(hg i hi).trans (h5 _ (hσ i hi)).1, (hu_n (ne_at (h5 _ (hσ i hi)).2 hE (fun e => by cases e))).trans (h5 _ (hσ i hi)).2⟩, h6, h7, fun j k hj hk e => hi j k hj hk (h8 _ _ (hσ j hj) (hσ k hk) e), h9, h10⟩
theorem PlW.ext {G : GG} {h : AH} {tg pl Lp edp capp np Ls eds caps ns : Nat} {mdp mds kf br en : Int32} {gp gs : Nat → Option Nat} {pa sa : Nat → Nat} {P S Xc : Nat → Nat → Int32} {X2 : Nat → Nat → Int32} (w : PlW G h tg pl Lp edp capp mdp np gp pa P Ls eds caps mds ns gs sa S Xc kf br en) (e : ∀ k, k < ns → Xc k = X2 k) : PlW G h tg pl Lp edp capp mdp np gp pa P Ls eds caps mds ns gs sa S X2 kf br en := by
  obtain ⟨h1, h2, h3, h4, h5, h6⟩ := w
  exact ⟨h1, h2, h3, h4, fun i hi => ⟨(h5 i hi).1, by rw [← e i hi]; exact (h5 i hi).2⟩, h6⟩

/-- a fresh plot -/
abbrev PlF (G : GG) (h : AH) (tg pl Lp edp capp : Nat) (mdp : Int32) (np : Nat) (gp : Nat → Option Nat) (pa : Nat → Nat) (P : Nat → Nat → Int32) (Ls eds caps : Nat) (mds : Int32) (ns : Nat) (gs : Nat → Option Nat) (sa : Nat → Nat) (S : Nat → Nat → Int32) (cb : Nat → Int32) (kf : Int32) : Prop :=
  PlW G h tg pl Lp edp capp mdp np gp pa P Ls eds caps mds ns gs sa S (rX S cb kf) kf (rN S cb kf ns) (rB S ns)
theorem k_refresh {l : Launch} {s0 : State} {a0 : Array Value} {G : GG} (X : CX l s0 a0 G) {h : AH} {tg pl Lp edp capp np Ls eds caps ns : Nat} {mdp mds kf br en : Int32} {gp gs : Nat → Option Nat} {pa sa : Nat → Nat} {P S Xc : Nat → Nat → Int32} {cb : Nat → Int32} (htg : tg ≠ 0) (w : PlW G h tg pl Lp edp capp mdp np gp pa P Ls eds caps mds ns gs sa S Xc kf br en) (hcb : (fun i => Xc i 0) = cb) : Con l s0 G yX3_refresh cX3_refresh 5 none 4 0 0 tg [.ref pl] h (fun r h2 => none = r ∧ PlF G h2 tg pl Lp edp capp mdp np gp pa P Ls eds caps mds ns gs sa S cb kf ∧ ∀ a, a ≠ pl → (∀ i, i < ns → a ≠ sa i) → h2 a = h a) :=
  Con.imp (k_X3_refresh X htg w) (fun r h2 q => ⟨q.1, by rw [← hcb]; exact q.2.1.ext (fun k hk => if_pos hk), q.2.2⟩)

set_option maxHeartbeats 4000000 in
set_option maxRecDepth 100000 in
theorem k_X3_trade {l : Launch} {s0 : State} {a0 : Array Value} {G : GG} (X : CX l s0 a0 G) {h : AH} {tg pl Lp edp capp np Ls eds caps ns : Nat} {mdp mds kf br en : Int32} {gp gs : Nat → Option Nat} {pa sa : Nat → Nat} {P S Xc : Nat → Nat → Int32} (htg : tg ≠ 0) (w : PlW G h tg pl Lp edp capp mdp np gp pa P Ls eds caps mds ns gs sa S Xc kf br en) {i j : Nat} {xi xj : Int32} (hi : xi = nI i) (hj : xj = nI j) (hin : i < ns) (hjn : j < ns) : Con l s0 G yX3_trade cX3_trade 4 none 4 0 0 tg [.ref pl, .int xi, .int xj] h (fun r h2 => none = r ∧ ∃ g2, PlW G h2 tg pl Lp edp capp mdp np gp pa P Ls eds caps mds ns g2 (fun k => sa (sw i j k)) (fun k => S (sw i j k)) (fun k => Xc (sw i j k)) kf br en ∧ ∀ a, a ≠ eds → h2 a = h a) := by
  refine Con.of X (by decide +kernel) [some (.ref pl), some (.int xi), some (.int xj), none] rfl (Nat.le_of_ble_eq_true rfl) (fun p e s m below meth c X hnm hret => ?_)
  have w0 := w
  obtain ⟨hpl, hlp, hls, hP, hS, hn8, hn10, hinj, hpp, hee⟩ := w
  have hc9 : caps ≠ 0 := by have := hls.2.2.1; omega
  have hE := (hls.cap0 hc9).2
  have hli2 : LI G (hu h eds (tg, oArr caps (va_up gs i (some (sa j))))) tg Ls ns (va_up gs i (some (sa j))) eds caps mds := ⟨(hu_n hls.2.1).trans hls.1, hls.2.1, hls.2.2.1, Or.inr ⟨(hls.cap0 hc9).1, hu_s⟩⟩
  have hsi : hu h eds (tg, oArr caps (va_up gs i (some (sa j)))) (sa i) = some (tg, cScn (S i) (Xc i)) := (hu_n (ne_at (hS i hin).2 hE (fun e => by cases e))).trans (hS i hin).2
  have hpl2 : hu h eds (tg, oArr caps (va_up gs i (some (sa j)))) pl = some (tg, .inr (5, [.ref Lp, .ref Ls, .int kf, .int br, .int en])) := (hu_n (ne_at hpl hE (fun e => by cases e))).trans hpl
  obtain ⟨yj, hyj⟩ : ∃ yj, va_up gs i (some (sa j)) j = some yj := by
    by_cases q : j = i
    · rw [q, va_up_self]; exact ⟨_, rfl⟩
    · rw [va_up_ne _ _ q]; exact ⟨_, (hS j hjn).1⟩
  refine aw_ald0 X dX3_trade_0 rfl ?_
  refine aw_get X fd_X3_18 dX3_trade_1 rfl hpl rfl ?_
  refine aw_ild1 X dX3_trade_4 rfl ?_
  refine aw_callV X dX3_trade_5 rfl (k_lget X.1 hls hi hin (hS i hin).1) cmJx4a65c_get_915e3 ml_X3_56 rfl hls.1 rfl rfl (Nat.le_of_ble_eq_true rfl) ⟨Nat.le_of_ble_eq_true rfl, Nat.le_of_ble_eq_true rfl⟩ (aw_rs ?_)
  refine aw_cast X dX3_trade_8 rfl rfl cc_X3_51 (hS i hin).2 ?_
  refine aw_ast3 X dX3_trade_11 rfl (by decide) rfl ?_
  refine aw_ald0 X dX3_trade_12 rfl ?_
  refine aw_get X fd_X3_18 dX3_trade_13 rfl hpl rfl ?_
  refine aw_ild1 X dX3_trade_16 rfl ?_
  refine aw_ald0 X dX3_trade_17 rfl ?_
  refine aw_get X fd_X3_18 dX3_trade_18 rfl hpl rfl ?_
  refine aw_ild2 X dX3_trade_21 rfl ?_
  refine aw_callV X dX3_trade_22 rfl (k_lget X.1 hls hj hjn (hS j hjn).1) cmJx4a65c_get_915e3 ml_X3_56 rfl hls.1 rfl rfl (Nat.le_of_ble_eq_true rfl) ⟨Nat.le_of_ble_eq_true rfl, Nat.le_of_ble_eq_true rfl⟩ (aw_rs ?_)
  refine aw_cast X dX3_trade_25 rfl rfl cc_X3_51 (hS j hjn).2 ?_
  refine aw_callV X dX3_trade_28 rfl (k_lset X.1 htg hls hi hin (hS i hin).1 (hS j hjn).2 ob_scn) cmJx4a65c_set_bcc79 ml_X3_75 rfl hls.1 rfl rfl (Nat.le_of_ble_eq_true rfl) ⟨Nat.le_of_ble_eq_true rfl, Nat.le_of_ble_eq_true rfl⟩ (aw_rs ?_)
  refine aw_pop X dX3_trade_31 rfl rfl ?_
  refine aw_ald0 X dX3_trade_32 rfl ?_
  refine aw_get X fd_X3_18 dX3_trade_33 rfl hpl2 rfl ?_
  refine aw_ild2 X dX3_trade_36 rfl ?_
  refine aw_ald3 X dX3_trade_37 rfl ?_
  refine aw_callV X dX3_trade_38 rfl (k_lset X.1 htg hli2 hj hjn hyj hsi ob_scn) cmJx4a65c_set_bcc79 ml_X3_75 rfl hli2.1 rfl rfl (Nat.le_of_ble_eq_true rfl) ⟨Nat.le_of_ble_eq_true rfl, Nat.le_of_ble_eq_true rfl⟩ (aw_rs ?_)
  refine aw_pop X dX3_trade_41 rfl rfl ?_
  exact aw_vret X hret dX3_trade_42 (⟨rfl, _, by
    rw [hu_hu]
    refine w0.perm htg (by omega) (fun k hk => sw_lt hin hjn hk) (fun a b ha hb e => by rw [← sw_sw i j a, ← sw_sw i j b, e]) (fun k hk => ?_)
    unfold sw
    by_cases q1 : k = j
    · rw [q1, va_up_self]
      by_cases q2 : j = i
      · rw [if_pos q2, q2, (hS i hin).1]
      · rw [if_neg q2, if_pos rfl, (hS i hin).1]
    · rw [va_up_ne _ _ q1]
      by_cases q2 : k = i
      · rw [if_pos q2, q2, va_up_self, (hS j hjn).1]
      · rw [if_neg q2, if_neg q1, va_up_ne _ _ q2], fun a ha => by rw [hu_hu, hu_n ha]⟩)

set_option maxHeartbeats 4000000 in
set_option maxRecDepth 100000 in
theorem k_X3_exchange {l : Launch} {s0 : State} {a0 : Array Value} {G : GG} (X : CX l s0 a0 G) {h : AH} {tg pl Lp edp capp np Ls eds caps ns : Nat} {mdp mds kf br en : Int32} {gp gs : Nat → Option Nat} {pa sa : Nat → Nat} {P S Xc : Nat → Nat → Int32} (htg : tg ≠ 0) (w : PlW G h tg pl Lp edp capp mdp np gp pa P Ls eds caps mds ns gs sa S Xc kf br en) {i j : Nat} {xi xj : Int32} (hi : xi = nI i) (hj : xj = nI j) (hin : i < ns) (hjn : j < ns) : Con l s0 G yX3_exchange cX3_exchange 3 none 5 0 0 tg [.ref pl, .int xi, .int xj] h (fun r h2 => none = r ∧ ∃ g2, PlF G h2 tg pl Lp edp capp mdp np gp pa P Ls eds caps mds ns g2 (fun k => sa (sw i j k)) (fun k => S (sw i j k)) (fun k => Xc (sw i j k) 0) kf ∧ ∀ a, a ≠ pl → a ≠ eds → (∀ i, i < ns → a ≠ sa i) → h2 a = h a) := by
  refine Con.of X (by decide +kernel) [some (.ref pl), some (.int xi), some (.int xj)] rfl (Nat.le_of_ble_eq_true rfl) (fun p e s m below meth c X hnm hret => ?_)
  refine aw_ald0 X dX3_exchange_0 rfl ?_
  refine aw_ild1 X dX3_exchange_1 rfl ?_
  refine aw_ild2 X dX3_exchange_2 rfl ?_
  refine aw_callV X dX3_exchange_3 rfl (k_X3_trade X.1 htg w hi hj hin hjn) cmX3_trade ml_X3_63 rfl w.1 rfl rfl (Nat.le_of_ble_eq_true rfl) ⟨Nat.le_of_ble_eq_true rfl, Nat.le_of_ble_eq_true rfl⟩ (fun r h2 hq hf => ?_)
  obtain ⟨rfl, g2, hw2, hk2⟩ := hq
  refine aw_ald0 X dX3_exchange_6 rfl ?_
  refine aw_callV X dX3_exchange_7 rfl (k_refresh X.1 htg hw2 rfl) cmX3_refresh ml_X3_44 rfl hw2.1 rfl rfl (Nat.le_of_ble_eq_true rfl) ⟨Nat.le_of_ble_eq_true rfl, Nat.le_of_ble_eq_true rfl⟩ (fun r h3 hq hf => ?_)
  obtain ⟨rfl, hw3, hk3⟩ := hq
  exact aw_vret X hret dX3_exchange_10 (⟨rfl, g2, hw3, fun a h1 h2 h3 => (hk3 a h1 (fun i hi => h3 _ (sw_lt hin hjn hi))).trans (hk2 a h2)⟩)

/-- the best exchange -/
def bStep (S : Nat → Nat → Int32) (cb : Nat → Int32) (kf : Int32) (n i j : Nat) (u : Int32 × Int32) : Int32 × Int32 :=
  if rN (fun k => S (sw i j k)) (fun k => cb (sw i j k)) kf n < u.1 then (rN (fun k => S (sw i j k)) (fun k => cb (sw i j k)) kf n, 10 * nI i + nI j) else u
def bIn (S : Nat → Nat → Int32) (cb : Nat → Int32) (kf : Int32) (n i : Nat) (u : Int32 × Int32) (m : Nat) : Int32 × Int32 := fo (fun t u => bStep S cb kf n i (i + 1 + t) u) u m
def bOut (S : Nat → Nat → Int32) (cb : Nat → Int32) (kf : Int32) (n k : Nat) : Int32 × Int32 := fo (fun i u => bIn S cb kf n i u (n - (i + 1))) (rN S cb kf n, -1) k
