/-! THE PLOT, ITS CHANGES -/
theorem LI.cap0 {G : GG} {h : AH} {tg L n ed cap : Nat} {g : Nat → Option Nat} {md : Int32} (w : LI G h tg L n g ed cap md) (hc : cap ≠ 0) : (cap = 10 ∨ cap = 15) ∧ h ed = some (tg, oArr cap g) := by
  rcases w.2.2.2 with ⟨e, -⟩ | e
  · exact absurd e hc
  · exact e
theorem LI.ne {G : GG} {h : AH} {tg L n ed cap L2 n2 ed2 cap2 : Nat} {g g2 : Nat → Option Nat} {md md2 : Int32} (w : LI G h tg L n g ed cap md) (w2 : LI G h tg L2 n2 g2 ed2 cap2 md2) (h2 : cap2 ≠ 0) (hne : cap ≠ 0 → ed ≠ ed2) : ed ≠ ed2 := by
  by_cases hc : cap = 0
  · intro e
    obtain ⟨t, h1⟩ := w.arr
    have h3 := (w2.cap0 h2).2
    rw [← e, h1, hc] at h3
    have := congrArg (fun x : Option AC => match x with | some (_, .inl (_, v)) => v.1 | _ => 0) h3
    exact h2 this.symm
  · exact hne hc
theorem k_lset {l : Launch} {s0 : State} {a0 : Array Value} {G : GG} (X : CX l s0 a0 G) {h : AH} {tg L n ed cap k y v tv : Nat} {g : Nat → Option Nat} {md i : Int32} {xv : AE} (htg : tg ≠ 0) (w : LI G h tg L n g ed cap md) (hi : i = nI k) (hk : k < n) (hy : g k = some y) (hv : h v = some (tv, xv)) (ho : OB xv) :
    Con l s0 G yJx4a65c_set_bcc79 cJx4a65c_set_bcc79 4 (some (.object "java/lang/Object")) 2 0 0 tg [.ref L, .int i, .ref v] h (RS (.ref y) (hu h ed (tg, oArr cap (va_up g k (some v))))) := by
  subst hi
  have hc := w.cap
  exact k_Jx4a65c_set_bcc79 X htg w.1 (w.cap0 (by have := w.2.2.1; omega)).2 hk w.2.2.1 (by omega) hy hv ho
def sw (i j k : Nat) : Nat := if k = i then j else if k = j then i else k
theorem sw_sw (i j k : Nat) : sw i j (sw i j k) = k := by
  unfold sw
  by_cases h1 : k = i
  · rw [if_pos h1]
    by_cases h2 : j = i
    · rw [if_pos h2, h2, h1]
    · rw [if_neg h2, if_pos rfl, h1]
  · rw [if_neg h1]
    by_cases h2 : k = j
    · rw [if_pos h2, if_pos rfl, h2]
    · rw [if_neg h2, if_neg h1, if_neg h2]
theorem sw_lt {i j k n : Nat} (hi : i < n) (hj : j < n) (hk : k < n) : sw i j k < n := by
  unfold sw
  split
  · exact hj
  · split
    · exact hi
    · exact hk
theorem ob_scn {s x : Nat → Int32} : OB (cScn s x) := ob_X4
theorem PlW.perm {G : GG} {h : AH} {tg pl Lp edp capp np Ls eds caps ns : Nat} {mdp mds kf br en : Int32} {gp gs : Nat → Option Nat} {pa sa : Nat → Nat} {P S Xc : Nat → Nat → Int32} (htg : tg ≠ 0) (w : PlW G h tg pl Lp edp capp mdp np gp pa P Ls eds caps mds ns gs sa S Xc kf br en) (h0 : 0 < ns) {σ : Nat → Nat} (hσ : ∀ k, k < ns → σ k < ns) (hi : ∀ j k, j < ns → k < ns → σ j = σ k → j = k) {g2 : Nat → Option Nat} (hg : ∀ k, k < ns → g2 k = gs (σ k)) : PlW G (hu h eds (tg, oArr caps g2)) tg pl Lp edp capp mdp np gp pa P Ls eds caps mds ns g2 (fun k => sa (σ k)) (fun k => S (σ k)) (fun k => Xc (σ k)) kf br en := by
  obtain ⟨h1, h2, h3, h4, h5, h6, h7, h8, h9, h10⟩ := w
  have hc : caps ≠ 0 := by have := h3.2.2.1; omega
  have hE := (h3.cap0 hc).2
  refine ⟨(hu_n (ne_at h1 hE (fun e => by cases e))).trans h1, h2.kept (hu_n (ne_at h2.1 hE (fun e => by cases e))) (hu_n (h2.ne h3 hc (fun q => h10 q hc))), ⟨(hu_n h3.2.1).trans h3.1, h3.2.1, h3.2.2.1, Or.inr ⟨(h3.cap0 hc).1, hu_s⟩⟩, fun i hi => ⟨(h4 i hi).1, (hu_n (ne_at (h4 i hi).2 hE (fun e => by cases e))).trans (h4 i hi).2⟩, fun i hi => ⟨(hg i hi).trans (h5 _ (hσ i hi)).1, (hu_n (ne_at (h5 _ (hσ i hi)).2 hE (fun e => by cases e))).trans (h5 _ (hσ i hi)).2⟩, h6, h7, fun j k hj hk e => hi j k hj hk (h8 _ _ (hσ j hj) (hσ k hk) e), h9, h10⟩
theorem PlW.ext {G : GG} {h : AH} {tg pl Lp edp capp np Ls eds caps ns : Nat} {mdp mds kf br en : Int32} {gp gs : Nat → Option Nat} {pa sa : Nat → Nat} {P S Xc : Nat → Nat → Int32} {X2 : Nat → Nat → Int32} (w : PlW G h tg pl Lp edp capp mdp np gp pa P Ls eds caps mds ns gs sa S Xc kf br en) (e : ∀ k, k < ns → Xc k = X2 k) : PlW G h tg pl Lp edp capp mdp np gp pa P Ls eds caps mds ns gs sa S X2 kf br en := by
  obtain ⟨h1, h2, h3, h4, h5, h6⟩ := w
  exact ⟨h1, h2, h3, h4, fun i hi => ⟨(h5 i hi).1, by rw [← e i hi]; exact (h5 i hi).2⟩, h6⟩

/-- a fresh plot -/
abbrev PlF (G : GG) (h : AH) (tg pl Lp edp capp : Nat) (mdp : Int32) (np : Nat) (gp : Nat → Option Nat) (pa : Nat → Nat) (P : Nat → Nat → Int32) (Ls eds caps : Nat) (mds : Int32) (ns : Nat) (gs : Nat → Option Nat) (sa : Nat → Nat) (S : Nat → Nat → Int32) (cb : Nat → Int32) (kf : Int32) : Prop :=
  PlW G h tg pl Lp edp capp mdp np gp pa P Ls eds caps mds ns gs sa S (rX S cb kf) kf (rN S cb kf ns) (rB S ns)
theorem k_refresh {l : Launch} {s0 : State} {a0 : Array Value} {G : GG} (X : CX l s0 a0 G) {h : AH} {tg pl Lp edp capp np Ls eds caps ns : Nat} {mdp mds kf br en : Int32} {gp gs : Nat → Option Nat} {pa sa : Nat → Nat} {P S Xc : Nat → Nat → Int32} {cb : Nat → Int32} (htg : tg ≠ 0) (w : PlW G h tg pl Lp edp capp mdp np gp pa P Ls eds caps mds ns gs sa S Xc kf br en) (hcb : (fun i => Xc i 0) = cb) : Con l s0 G yX3_refresh cX3_refresh 5 none 4 0 0 tg [.ref pl] h (fun r h2 => none = r ∧ PlF G h2 tg pl Lp edp capp mdp np gp pa P Ls eds caps mds ns gs sa S cb kf ∧ ∀ a, a ≠ pl → (∀ i, i < ns → a ≠ sa i) → h2 a = h a) :=
  Con.imp (k_X3_refresh X htg w) (fun r h2 q => ⟨q.1, by rw [← hcb]; exact q.2.1.ext (fun k hk => if_pos hk), q.2.2⟩)

set_option maxHeartbeats 4000000 in
set_option maxRecDepth 100000 in
theorem k_X3_trade {l : Launch} {s0 : State} {a0 : Array Value} {G : GG} (X : CX l s0 a0 G) {h : AH} {tg pl Lp edp capp np Ls eds caps ns : Nat} {mdp mds kf br en : Int32} {gp gs : Nat → Option Nat} {pa sa : Nat → Nat} {P S Xc : Nat → Nat → Int32} (htg : tg ≠ 0) (w : PlW G h tg pl Lp edp capp mdp np gp pa P Ls eds caps mds ns gs sa S Xc kf br en) {i j : Nat} {xi xj : Int32} (hi : xi = nI i) (hj : xj = nI j) (hin : i < ns) (hjn : j < ns) : Con l s0 G yX3_trade cX3_trade 4 none 4 0 0 tg [.ref pl, .int xi, .int xj] h (fun r h2 => none = r ∧ ∃ g2, PlW G h2 tg pl Lp edp capp mdp np gp pa P Ls eds caps mds ns g2 (fun k => sa (sw i j k)) (fun k => S (sw i j k)) (fun k => Xc (sw i j k)) kf br en ∧ ∀ a, a ≠ eds → h2 a = h a) := by
  refine Con.of X (by decide +kernel) [some (.ref pl), some (.int xi), some (.int xj), none] rfl (Nat.le_of_ble_eq_true rfl) (fun p e s m below meth c X hnm hret => ?_)
  have w0 := w
  obtain ⟨hpl, hlp, hls, hP, hS, hn8, hn10, hinj, hpp, hee⟩ := w
  have hc9 : caps ≠ 0 := by have := hls.2.2.1; omega
  have hE := (hls.cap0 hc9).2
  have hli2 : LI G (hu h eds (tg, oArr caps (va_up gs i (some (sa j))))) tg Ls ns (va_up gs i (some (sa j))) eds caps mds := ⟨(hu_n hls.2.1).trans hls.1, hls.2.1, hls.2.2.1, Or.inr ⟨(hls.cap0 hc9).1, hu_s⟩⟩
  have hsi : hu h eds (tg, oArr caps (va_up gs i (some (sa j)))) (sa i) = some (tg, cScn (S i) (Xc i)) := (hu_n (ne_at (hS i hin).2 hE (fun e => by cases e))).trans (hS i hin).2
  have hpl2 : hu h eds (tg, oArr caps (va_up gs i (some (sa j)))) pl = some (tg, .inr (5, [.ref Lp, .ref Ls, .int kf, .int br, .int en])) := (hu_n (ne_at hpl hE (fun e => by cases e))).trans hpl
  obtain ⟨yj, hyj⟩ : ∃ yj, va_up gs i (some (sa j)) j = some yj := by
    by_cases q : j = i
    · rw [q, va_up_self]; exact ⟨_, rfl⟩
    · rw [va_up_ne _ _ q]; exact ⟨_, (hS j hjn).1⟩
  refine aw_ald0 X dX3_trade_0 rfl ?_
  refine aw_get X fd_X3_18 dX3_trade_1 rfl hpl rfl ?_
  refine aw_ild1 X dX3_trade_4 rfl ?_
  refine aw_callV X dX3_trade_5 rfl (k_lget X.1 hls hi hin (hS i hin).1) cmJx4a65c_get_915e3 ml_X3_56 rfl hls.1 rfl rfl (Nat.le_of_ble_eq_true rfl) ⟨Nat.le_of_ble_eq_true rfl, Nat.le_of_ble_eq_true rfl⟩ (aw_rs ?_)
  refine aw_cast X dX3_trade_8 rfl rfl cc_X3_51 (hS i hin).2 ?_
  refine aw_ast3 X dX3_trade_11 rfl (by decide) rfl ?_
  refine aw_ald0 X dX3_trade_12 rfl ?_
  refine aw_get X fd_X3_18 dX3_trade_13 rfl hpl rfl ?_
  refine aw_ild1 X dX3_trade_16 rfl ?_
  refine aw_ald0 X dX3_trade_17 rfl ?_
  refine aw_get X fd_X3_18 dX3_trade_18 rfl hpl rfl ?_
  refine aw_ild2 X dX3_trade_21 rfl ?_
  refine aw_callV X dX3_trade_22 rfl (k_lget X.1 hls hj hjn (hS j hjn).1) cmJx4a65c_get_915e3 ml_X3_56 rfl hls.1 rfl rfl (Nat.le_of_ble_eq_true rfl) ⟨Nat.le_of_ble_eq_true rfl, Nat.le_of_ble_eq_true rfl⟩ (aw_rs ?_)
  refine aw_cast X dX3_trade_25 rfl rfl cc_X3_51 (hS j hjn).2 ?_
  refine aw_callV X dX3_trade_28 rfl (k_lset X.1 htg hls hi hin (hS i hin).1 (hS j hjn).2 ob_scn) cmJx4a65c_set_bcc79 ml_X3_75 rfl hls.1 rfl rfl (Nat.le_of_ble_eq_true rfl) ⟨Nat.le_of_ble_eq_true rfl, Nat.le_of_ble_eq_true rfl⟩ (aw_rs ?_)
  refine aw_pop X dX3_trade_31 rfl rfl ?_
  refine aw_ald0 X dX3_trade_32 rfl ?_
  refine aw_get X fd_X3_18 dX3_trade_33 rfl hpl2 rfl ?_
  refine aw_ild2 X dX3_trade_36 rfl ?_
  refine aw_ald3 X dX3_trade_37 rfl ?_
  refine aw_callV X dX3_trade_38 rfl (k_lset X.1 htg hli2 hj hjn hyj hsi ob_scn) cmJx4a65c_set_bcc79 ml_X3_75 rfl hli2.1 rfl rfl (Nat.le_of_ble_eq_true rfl) ⟨Nat.le_of_ble_eq_true rfl, Nat.le_of_ble_eq_true rfl⟩ (aw_rs ?_)
  refine aw_pop X dX3_trade_41 rfl rfl ?_
  exact aw_vret X hret dX3_trade_42 (⟨rfl, _, by
    rw [hu_hu]
    refine w0.perm htg (by omega) (fun k hk => sw_lt hin hjn hk) (fun a b ha hb e => by rw [← sw_sw i j a, ← sw_sw i j b, e]) (fun k hk => ?_)
    unfold sw
    by_cases q1 : k = j
    · rw [q1, va_up_self]
      by_cases q2 : j = i
      · rw [if_pos q2, q2, (hS i hin).1]
      · rw [if_neg q2, if_pos rfl, (hS i hin).1]
    · rw [va_up_ne _ _ q1]
      by_cases q2 : k = i
      · rw [if_pos q2, q2, va_up_self, (hS j hjn).1]
      · rw [if_neg q2, if_neg q1, va_up_ne _ _ q2], fun a ha => by rw [hu_hu, hu_n ha]⟩)

set_option maxHeartbeats 4000000 in
set_option maxRecDepth 100000 in
theorem k_X3_exchange {l : Launch} {s0 : State} {a0 : Array Value} {G : GG} (X : CX l s0 a0 G) {h : AH} {tg pl Lp edp capp np Ls eds caps ns : Nat} {mdp mds kf br en : Int32} {gp gs : Nat → Option Nat} {pa sa : Nat → Nat} {P S Xc : Nat → Nat → Int32} (htg : tg ≠ 0) (w : PlW G h tg pl Lp edp capp mdp np gp pa P Ls eds caps mds ns gs sa S Xc kf br en) {i j : Nat} {xi xj : Int32} (hi : xi = nI i) (hj : xj = nI j) (hin : i < ns) (hjn : j < ns) : Con l s0 G yX3_exchange cX3_exchange 3 none 5 0 0 tg [.ref pl, .int xi, .int xj] h (fun r h2 => none = r ∧ ∃ g2, PlF G h2 tg pl Lp edp capp mdp np gp pa P Ls eds caps mds ns g2 (fun k => sa (sw i j k)) (fun k => S (sw i j k)) (fun k => Xc (sw i j k) 0) kf ∧ ∀ a, a ≠ pl → a ≠ eds → (∀ i, i < ns → a ≠ sa i) → h2 a = h a) := by
  refine Con.of X (by decide +kernel) [some (.ref pl), some (.int xi), some (.int xj)] rfl (Nat.le_of_ble_eq_true rfl) (fun p e s m below meth c X hnm hret => ?_)
  refine aw_ald0 X dX3_exchange_0 rfl ?_
  refine aw_ild1 X dX3_exchange_1 rfl ?_
  refine aw_ild2 X dX3_exchange_2 rfl ?_
  refine aw_callV X dX3_exchange_3 rfl (k_X3_trade X.1 htg w hi hj hin hjn) cmX3_trade ml_X3_63 rfl w.1 rfl rfl (Nat.le_of_ble_eq_true rfl) ⟨Nat.le_of_ble_eq_true rfl, Nat.le_of_ble_eq_true rfl⟩ (fun r h2 hq hf => ?_)
  obtain ⟨rfl, g2, hw2, hk2⟩ := hq
  refine aw_ald0 X dX3_exchange_6 rfl ?_
  refine aw_callV X dX3_exchange_7 rfl (k_refresh X.1 htg hw2 rfl) cmX3_refresh ml_X3_44 rfl hw2.1 rfl rfl (Nat.le_of_ble_eq_true rfl) ⟨Nat.le_of_ble_eq_true rfl, Nat.le_of_ble_eq_true rfl⟩ (fun r h3 hq hf => ?_)
  obtain ⟨rfl, hw3, hk3⟩ := hq
  exact aw_vret X hret dX3_exchange_10 (⟨rfl, g2, hw3, fun a h1 h2 h3 => (hk3 a h1 (fun i hi => h3 _ (sw_lt hin hjn hi))).trans (hk2 a h2)⟩)

/-- the best exchange -/
def bStep (S : Nat → Nat → Int32) (cb : Nat → Int32) (kf : Int32) (n i j : Nat) (u : Int32 × Int32) : Int32 × Int32 :=
  if rN (fun k => S (sw i j k)) (fun k => cb (sw i j k)) kf n < u.1 then (rN (fun k => S (sw i j k)) (fun k => cb (sw i j k)) kf n, 10 * nI i + nI j) else u
def bIn (S : Nat → Nat → Int32) (cb : Nat → Int32) (kf : Int32) (n i : Nat) (u : Int32 × Int32) (m : Nat) : Int32 × Int32 := fo (fun t u => bStep S cb kf n i (i + 1 + t) u) u m
def bOut (S : Nat → Nat → Int32) (cb : Nat → Int32) (kf : Int32) (n k : Nat) : Int32 × Int32 := fo (fun i u => bIn S cb kf n i u (n - (i + 1))) (rN S cb kf n, -1) k

theorem sw_f {α : Type} (F : Nat → α) (i j : Nat) : (fun k => F (sw i j (sw i j k))) = F := funext fun k => congrArg F (sw_sw i j k)
/-- the plot's cells but for what follows: scenes' kept row, counts -/
def PlQ (G : GG) (h : AH) (tg pl Lp edp capp : Nat) (mdp : Int32) (np : Nat) (gp : Nat → Option Nat) (pa : Nat → Nat) (P : Nat → Nat → Int32) (Ls eds caps : Nat) (mds : Int32) (ns : Nat) (sa : Nat → Nat) (S : Nat → Nat → Int32) (cb : Nat → Int32) (kf : Int32) : Prop :=
  ∃ gs Xc br en, PlW G h tg pl Lp edp capp mdp np gp pa P Ls eds caps mds ns gs sa S Xc kf br en ∧ (fun i => Xc i 0) = cb
theorem bIn_s {S : Nat → Nat → Int32} {cb : Nat → Int32} {kf : Int32} {n i m : Nat} {u : Int32 × Int32} : bStep S cb kf n i (i + 1 + m) (bIn S cb kf n i u m) = bIn S cb kf n i u (m + 1) := rfl

set_option maxHeartbeats 4000000 in
set_option maxRecDepth 100000 in
theorem k_X3_bestExchange {l : Launch} {s0 : State} {a0 : Array Value} {G : GG} (X : CX l s0 a0 G) {h : AH} {tg pl Lp edp capp np Ls eds caps ns : Nat} {mdp mds kf : Int32} {gp gs : Nat → Option Nat} {pa sa : Nat → Nat} {P S : Nat → Nat → Int32} {cb : Nat → Int32} (htg : tg ≠ 0) (w : PlF G h tg pl Lp edp capp mdp np gp pa P Ls eds caps mds ns gs sa S cb kf)  : Con l s0 G yX3_bestExchange cX3_bestExchange 5 (some .int) 6 0 0 tg [.ref pl] h (fun r h2 => some (.int (bOut S cb kf ns ns).2) = r ∧ ∃ gs2, PlF G h2 tg pl Lp edp capp mdp np gp pa P Ls eds caps mds ns gs2 sa S cb kf ∧ ∀ a, a ≠ pl → (a ≠ eds ∨ caps = 0) → (∀ i, i < ns → a ≠ sa i) → h2 a = h a) := by
  refine Con.of X (by decide +kernel) [some (.ref pl), none, none, none, none] rfl (Nat.le_of_ble_eq_true rfl) (fun p e s m below meth c X hnm hret => ?_)
  have hn10 := w.2.2.2.2.2.2.1
  have hpl0 := w.1
  have hQ0 : PlQ G h tg pl Lp edp capp mdp np gp pa P Ls eds caps mds ns sa S cb kf := ⟨gs, _, _, _, w, rfl⟩
  refine aw_ald0 X dX3_bestExchange_0 rfl ?_
  refine aw_get X fd_X3_25 dX3_bestExchange_1 rfl hpl0 rfl ?_
  refine aw_ist1 X dX3_bestExchange_4 rfl (by decide) rfl ?_
  refine aw_iconst X (-1) dX3_bestExchange_5 (by decide) rfl ?_
  refine aw_ist2 X dX3_bestExchange_6 rfl (by decide) rfl ?_
  refine aw_iconst X (0) dX3_bestExchange_7 (by decide) rfl ?_
  refine aw_ist3 X dX3_bestExchange_8 rfl (by decide) rfl ?_
  refine aw_dn (n := ns) (A := fun j k => ∀ (y4 : Option Value), ∀ (x : Int32), ∀ (h9 : AH), (x = nI k) → (PlQ G h9 tg pl Lp edp capp mdp np gp pa P Ls eds caps mds ns sa S cb kf) → (∀ a, a ≠ pl → (a ≠ eds ∨ caps = 0) → (∀ i, i < ns → a ≠ sa i) → h9 a = h a) → AW p l e _ s m _ below meth c _ s0 G 5 tg _ h9 _ _ 9 [some (.ref pl), some (.int (bOut S cb kf ns k).1), some (.int (bOut S cb kf ns k).2), some (.int x), y4] []) ?_ ?_ ns 0 rfl none 0 h nI_0.symm hQ0 (fun _ _ _ _ => rfl)
  · intro y4 x h9 hx hw9 hk9
    obtain ⟨g8, X8, b8, n8, w8, hcb8⟩ := id hw9
    have hpl := w8.1
    have hls := w8.2.2.1
    refine aw_ild3 X dX3_bestExchange_9 rfl ?_
    refine aw_ald0 X dX3_bestExchange_10 rfl ?_
    refine aw_get X fd_X3_18 dX3_bestExchange_11 rfl hpl rfl ?_
    refine aw_callV X dX3_bestExchange_14 rfl (k_size X.1 hls) cmJx4a65c_size_8abf5 ml_X3_31 rfl hls.1 rfl rfl (Nat.le_of_ble_eq_true rfl) ⟨Nat.le_of_ble_eq_true rfl, Nat.le_of_ble_eq_true rfl⟩ (aw_rs ?_)
    refine aw_icmp_ge (n2 := 84) X dX3_bestExchange_17 rfl rfl (fun c17 => ?_) (fun c17 => absurd (ge_t hx (Nat.le_refl _) (by omega)) c17)
    refine aw_ald0 X dX3_bestExchange_84 rfl ?_
    refine aw_callV X dX3_bestExchange_85 rfl (k_refresh X.1 htg w8 hcb8) cmX3_refresh ml_X3_44 rfl hpl rfl rfl (Nat.le_of_ble_eq_true rfl) ⟨Nat.le_of_ble_eq_true rfl, Nat.le_of_ble_eq_true rfl⟩ (fun r h2 hq hf => ?_)
    obtain ⟨rfl, hw2, hk2⟩ := hq
    refine aw_ild2 X dX3_bestExchange_88 rfl ?_
    exact aw_iret X hret rfl dX3_bestExchange_89 (⟨rfl, g8, hw2, fun a h1 h3 h4 => (hk2 a h1 h4).trans (hk9 a h1 h3 h4)⟩)
  · intro j k hjk ih y4 x h9 hx hw9 hk9
    obtain ⟨g8, X8, b8, n8, w8, hcb8⟩ := id hw9
    have hpl := w8.1
    have hls := w8.2.2.1
    refine aw_ild3 X dX3_bestExchange_9 rfl ?_
    refine aw_ald0 X dX3_bestExchange_10 rfl ?_
    refine aw_get X fd_X3_18 dX3_bestExchange_11 rfl hpl rfl ?_
    refine aw_callV X dX3_bestExchange_14 rfl (k_size X.1 hls) cmJx4a65c_size_8abf5 ml_X3_31 rfl hls.1 rfl rfl (Nat.le_of_ble_eq_true rfl) ⟨Nat.le_of_ble_eq_true rfl, Nat.le_of_ble_eq_true rfl⟩ (aw_rs ?_)
    refine aw_icmp_ge (n2 := 84) X dX3_bestExchange_17 rfl rfl (fun c17 => absurd c17 (ge_f hx (by omega) (by omega))) (fun c17 => ?_)
    refine aw_ild3 X dX3_bestExchange_20 rfl ?_
    refine aw_iconst X (1) dX3_bestExchange_21 (by decide) rfl ?_
    refine aw_iadd X dX3_bestExchange_22 rfl ?_
    refine aw_ist4 X dX3_bestExchange_23 rfl (by decide) rfl ?_
    refine aw_dn (n := (ns - (k + 1))) (A := fun j2 t => ∀ (x4 : Int32), ∀ (h9 : AH), (x4 = nI (k + 1 + t)) → (PlQ G h9 tg pl Lp edp capp mdp np gp pa P Ls eds caps mds ns sa S cb kf) → (∀ a, a ≠ pl → (a ≠ eds ∨ caps = 0) → (∀ i, i < ns → a ≠ sa i) → h9 a = h a) → AW p l e _ s m _ below meth c _ s0 G 5 tg _ h9 _ _ 25 [some (.ref pl), some (.int (bIn S cb kf ns k (bOut S cb kf ns k) t).1), some (.int (bIn S cb kf ns k (bOut S cb kf ns k) t).2), some (.int x), some (.int x4)] []) ?_ ?_ (ns - (k + 1)) 0 rfl _ h9 (nx hx) hw9 hk9
    · intro x4 h9 hxj hw9 hk9
      obtain ⟨g8, X8, b8, n8, w8, hcb8⟩ := id hw9
      have hpl := w8.1
      have hls := w8.2.2.1
      refine aw_ild4 X dX3_bestExchange_25 rfl ?_
      refine aw_ald0 X dX3_bestExchange_27 rfl ?_
      refine aw_get X fd_X3_18 dX3_bestExchange_28 rfl hpl rfl ?_
      refine aw_callV X dX3_bestExchange_31 rfl (k_size X.1 hls) cmJx4a65c_size_8abf5 ml_X3_31 rfl hls.1 rfl rfl (Nat.le_of_ble_eq_true rfl) ⟨Nat.le_of_ble_eq_true rfl, Nat.le_of_ble_eq_true rfl⟩ (aw_rs ?_)
      refine aw_icmp_ge (n2 := 78) X dX3_bestExchange_34 rfl rfl (fun c34 => ?_) (fun c34 => absurd (ge_t hxj (by omega) (by omega)) c34)
      refine aw_iinc3 X (1) dX3_bestExchange_78 (by decide) rfl (by decide) rfl ?_
      refine aw_goto (n := 9) X dX3_bestExchange_81 rfl ?_
      exact ih _ (x + 1) h9 (nx hx) hw9 hk9
    · intro j2 t hjt ih2 x4 h9 hxj hw9 hk9
      obtain ⟨g8, X8, b8, n8, w8, hcb8⟩ := id hw9
      have hpl := w8.1
      have hls := w8.2.2.1
      have hc9 : caps ≠ 0 := by have := hls.2.2.1; omega
      refine aw_ild4 X dX3_bestExchange_25 rfl ?_
      refine aw_ald0 X dX3_bestExchange_27 rfl ?_
      refine aw_get X fd_X3_18 dX3_bestExchange_28 rfl hpl rfl ?_
      refine aw_callV X dX3_bestExchange_31 rfl (k_size X.1 hls) cmJx4a65c_size_8abf5 ml_X3_31 rfl hls.1 rfl rfl (Nat.le_of_ble_eq_true rfl) ⟨Nat.le_of_ble_eq_true rfl, Nat.le_of_ble_eq_true rfl⟩ (aw_rs ?_)
      refine aw_icmp_ge (n2 := 78) X dX3_bestExchange_34 rfl rfl (fun c34 => absurd c34 (ge_f hxj (by omega) (by omega))) (fun c34 => ?_)
      refine aw_ald0 X dX3_bestExchange_37 rfl ?_
      refine aw_ild3 X dX3_bestExchange_38 rfl ?_
      refine aw_ild4 X dX3_bestExchange_39 rfl ?_
      refine aw_callV X dX3_bestExchange_41 rfl (k_X3_exchange X.1 htg w8 hx hxj (by omega) (by omega)) cmX3_exchange ml_X3_67 rfl hpl rfl rfl (Nat.le_of_ble_eq_true rfl) ⟨Nat.le_of_ble_eq_true rfl, Nat.le_of_ble_eq_true rfl⟩ (fun r h2 hq hf => ?_)
      obtain ⟨rfl, g2, hw2, hk2⟩ := hq
      rw [show (fun q => X8 (sw k (k + 1 + t) q) 0) = fun q => cb (sw k (k + 1 + t) q) by rw [← hcb8]] at hw2
      refine aw_ald0 X dX3_bestExchange_44 rfl ?_
      refine aw_get X fd_X3_25 dX3_bestExchange_45 rfl hw2.1 rfl ?_
      refine aw_ild1 X dX3_bestExchange_48 rfl ?_
      refine aw_icmp_ge (n2 := 65) X dX3_bestExchange_49 rfl rfl (fun c49 => ?_) (fun c49 => ?_)
      · refine aw_ald0 X dX3_bestExchange_65 rfl ?_
        refine aw_ild3 X dX3_bestExchange_66 rfl ?_
        refine aw_ild4 X dX3_bestExchange_67 rfl ?_
        refine aw_callV X dX3_bestExchange_69 rfl (k_X3_trade X.1 htg hw2 hx hxj (by omega) (by omega)) cmX3_trade ml_X3_63 rfl hw2.1 rfl rfl (Nat.le_of_ble_eq_true rfl) ⟨Nat.le_of_ble_eq_true rfl, Nat.le_of_ble_eq_true rfl⟩ (fun r h3 hq hf => ?_)
        obtain ⟨rfl, g3, hw3, hk3⟩ := hq
        rw [sw_f, sw_f] at hw3
        have hQ3 : PlQ G h3 tg pl Lp edp capp mdp np gp pa P Ls eds caps mds ns sa S cb kf := ⟨g3, _, _, _, hw3, funext fun q => by
          show cb (sw k (k + 1 + t) (sw k (k + 1 + t) q)) = cb q
          rw [sw_sw]⟩
        have hF3 : ∀ a, a ≠ pl → (a ≠ eds ∨ caps = 0) → (∀ i, i < ns → a ≠ sa i) → h3 a = h a := fun a h1 h2 h4 => (hk3 a (h2.resolve_right hc9)).trans ((hk2 a h1 (h2.resolve_right hc9) h4).trans (hk9 a h1 h2 h4))
        refine aw_iinc4 X (1) dX3_bestExchange_72 (by decide) rfl (by decide) rfl ?_
        refine aw_goto (n := 25) X dX3_bestExchange_75 rfl ?_
        have hB : bStep S cb kf ns k (k + 1 + t) (bIn S cb kf ns k (bOut S cb kf ns k) t) = (bIn S cb kf ns k (bOut S cb kf ns k) t) := by exact if_neg (Int32.not_lt.mpr c49)
        have hq := ih2 (x4 + 1) h3 (nx hxj) hQ3 hF3
        rw [← bIn_s, hB] at hq
        exact hq
      · refine aw_ald0 X dX3_bestExchange_52 rfl ?_
        refine aw_get X fd_X3_25 dX3_bestExchange_53 rfl hw2.1 rfl ?_
        refine aw_ist1 X dX3_bestExchange_56 rfl (by decide) rfl ?_
        refine aw_bipush X (10) dX3_bestExchange_57 (by decide) rfl ?_
        refine aw_ild3 X dX3_bestExchange_59 rfl ?_
        refine aw_imul X dX3_bestExchange_60 rfl ?_
        refine aw_ild4 X dX3_bestExchange_61 rfl ?_
        refine aw_iadd X dX3_bestExchange_63 rfl ?_
        refine aw_ist2 X dX3_bestExchange_64 rfl (by decide) rfl ?_
        refine aw_ald0 X dX3_bestExchange_65 rfl ?_
        refine aw_ild3 X dX3_bestExchange_66 rfl ?_
        refine aw_ild4 X dX3_bestExchange_67 rfl ?_
        refine aw_callV X dX3_bestExchange_69 rfl (k_X3_trade X.1 htg hw2 hx hxj (by omega) (by omega)) cmX3_trade ml_X3_63 rfl hw2.1 rfl rfl (Nat.le_of_ble_eq_true rfl) ⟨Nat.le_of_ble_eq_true rfl, Nat.le_of_ble_eq_true rfl⟩ (fun r h3 hq hf => ?_)
        obtain ⟨rfl, g3, hw3, hk3⟩ := hq
        rw [sw_f, sw_f] at hw3
        have hQ3 : PlQ G h3 tg pl Lp edp capp mdp np gp pa P Ls eds caps mds ns sa S cb kf := ⟨g3, _, _, _, hw3, funext fun q => by
          show cb (sw k (k + 1 + t) (sw k (k + 1 + t) q)) = cb q
          rw [sw_sw]⟩
        have hF3 : ∀ a, a ≠ pl → (a ≠ eds ∨ caps = 0) → (∀ i, i < ns → a ≠ sa i) → h3 a = h a := fun a h1 h2 h4 => (hk3 a (h2.resolve_right hc9)).trans ((hk2 a h1 (h2.resolve_right hc9) h4).trans (hk9 a h1 h2 h4))
        refine aw_iinc4 X (1) dX3_bestExchange_72 (by decide) rfl (by decide) rfl ?_
        refine aw_goto (n := 25) X dX3_bestExchange_75 rfl ?_
        have hB : bStep S cb kf ns k (k + 1 + t) (bIn S cb kf ns k (bOut S cb kf ns k) t) = (rN (fun q => S (sw k (k + 1 + t) q)) (fun q => cb (sw k (k + 1 + t) q)) kf ns, 10 * x + x4) := by rw [hx, hxj]; exact if_pos (Int32.not_le.mp c49)
        have hq := ih2 (x4 + 1) h3 (nx hxj) hQ3 hF3
        rw [← bIn_s, hB] at hq
        exact hq

abbrev x4f := x4

/-- a row of six -/
def r6 (a b c d e f : Int32) : Nat → Int32 := upd (upd (upd (upd (upd (upd (fun _ => 0) 0 a) 1 b) 2 c) 3 d) 4 e) 5 f
theorem ob_per {r : Nat → Int32} : OB (oPer r) := ob_X2
theorem PlW.addS {G : GG} {h : AH} {tg pl Lp edp capp np Ls eds caps ns : Nat} {mdp mds kf br en : Int32} {gp gs : Nat → Option Nat} {pa sa : Nat → Nat} {P S Xc : Nat → Nat → Int32} (w : PlW G h tg pl Lp edp capp mdp np gp pa P Ls eds caps mds ns gs sa S Xc kf br en) {h2 : AH} {ed2 cap2 q : Nat} {g2 : Nat → Option Nat} {md2 : Int32} {s x : Nat → Int32} (hq : h q = none) (hl : LI G h2 tg Ls (ns + 1) g2 ed2 cap2 md2) (hc2 : cap2 ≠ 0) (hg : ∀ j, j < ns → g2 j = gs j) (hgn : g2 ns = some q) (hed : (ed2 = eds ∧ caps ≠ 0) ∨ h ed2 = none) (hfr : ∀ a c, h a = some c → a ≠ Ls → (a ≠ eds ∨ caps = 0) → h2 a = some c) (hq2 : h2 q = some (tg, cScn s x)) (hn : ns < 10) : PlW G h2 tg pl Lp edp capp mdp np gp pa P Ls ed2 cap2 md2 (ns + 1) g2 (fun i => if i = ns then q else sa i) (upF S ns s) (upF Xc ns x) kf br en := by
  obtain ⟨h1, hp, hs, h4, h5, h6, h7, h8, h9, h10⟩ := w
  have k1 : ∀ a c, h a = some c → (∀ m e n, c.2 ≠ oLst m e n) → (∀ c9 g, c.2 ≠ oArr c9 g) → h2 a = some c := fun a c e n1 n2 => hfr a c e (ne_at e hs.1 (n1 _ _ _)) (Or.inl (hs.ned (t := c.1) (x := c.2) e n2))
  have hee : capp ≠ 0 → edp ≠ ed2 := fun hc => by
    have e9 := (hp.cap0 hc).2
    rcases hed with ⟨e, hc3⟩ | e
    · rw [e]
      exact h10 hc hc3
    · exact fun z => by rw [← z, e9] at e; cases e
  have hep : h2 edp = h edp := by
    obtain ⟨t9, e9⟩ := hp.arr
    rw [e9]
    refine hfr _ _ e9 (ne_at e9 hs.1 (fun e => by cases e)) ?_
    by_cases hc : caps = 0
    · exact Or.inr hc
    · exact Or.inl (hp.ne hs hc (fun z => h10 z hc))
  refine ⟨k1 _ _ h1 (fun _ _ _ e => by cases e) (fun _ _ e => by cases e), hp.kept ((hfr _ _ hp.1 h9 (Or.inl (hs.ned hp.1 (fun _ _ e => by cases e)))).trans hp.1.symm) hep, hl, fun i hi => ⟨(h4 i hi).1, k1 _ _ (h4 i hi).2 (fun _ _ _ e => by cases e) (fun _ _ e => by cases e)⟩, fun i hi => ?_, h6, hn, fun a b ha hb e => ?_, h9, fun hc _ => hee hc⟩
  · by_cases z : i = ns
    · subst z
      exact ⟨by rw [hgn]; exact congrArg some (if_pos rfl).symm, by
        show h2 (if i = i then q else sa i) = some (tg, cScn (if i = i then s else S i) (if i = i then x else Xc i))
        rw [if_pos rfl, if_pos rfl, if_pos rfl]; exact hq2⟩
    · exact ⟨by rw [hg i (by omega), (h5 i (by omega)).1]; exact congrArg some (if_neg z).symm, by
        show h2 (if i = ns then q else sa i) = some (tg, cScn (if i = ns then s else S i) (if i = ns then x else Xc i))
        rw [if_neg z, if_neg z, if_neg z]; exact k1 _ _ (h5 i (by omega)).2 (fun _ _ _ e => by cases e) (fun _ _ e => by cases e)⟩
  · have nq : ∀ i, i < ns → sa i ≠ q := fun i hi z => by have := (h5 i hi).2; rw [z, hq] at this; cases this
    change (if a = ns then q else sa a) = (if b = ns then q else sa b) at e
    by_cases za : a = ns
    · by_cases zb : b = ns
      · rw [za, zb]
      · rw [if_pos za, if_neg zb] at e
        exact absurd e.symm (nq b (by omega))
    · by_cases zb : b = ns
      · rw [if_neg za, if_pos zb] at e
        exact absurd e (nq a (by omega))
      · rw [if_neg za, if_neg zb] at e
        exact h8 a b (by omega) (by omega) e
theorem PlW.addP {G : GG} {h : AH} {tg pl Lp edp capp np Ls eds caps ns : Nat} {mdp mds kf br en : Int32} {gp gs : Nat → Option Nat} {pa sa : Nat → Nat} {P S Xc : Nat → Nat → Int32} (w : PlW G h tg pl Lp edp capp mdp np gp pa P Ls eds caps mds ns gs sa S Xc kf br en) {h2 : AH} {ed2 cap2 q : Nat} {g2 : Nat → Option Nat} {md2 : Int32} {r : Nat → Int32} (hl : LI G h2 tg Lp (np + 1) g2 ed2 cap2 md2) (hc2 : cap2 ≠ 0) (hg : ∀ j, j < np → g2 j = gp j) (hgn : g2 np = some q) (hed : (ed2 = edp ∧ capp ≠ 0) ∨ h ed2 = none) (hfr : ∀ a c, h a = some c → a ≠ Lp → (a ≠ edp ∨ capp = 0) → h2 a = some c) (hq2 : h2 q = some (tg, oPer r)) (hn : np < 8) : PlW G h2 tg pl Lp ed2 cap2 md2 (np + 1) g2 (fun i => if i = np then q else pa i) (upF P np r) Ls eds caps mds ns gs sa S Xc kf br en := by
  obtain ⟨h1, hp, hs, h4, h5, h6, h7, h8, h9, h10⟩ := w
  have k1 : ∀ a c, h a = some c → (∀ m e n, c.2 ≠ oLst m e n) → (∀ c9 g, c.2 ≠ oArr c9 g) → h2 a = some c := fun a c e n1 n2 => hfr a c e (ne_at e hp.1 (n1 _ _ _)) (Or.inl (hp.ned (t := c.1) (x := c.2) e n2))
  have hee : caps ≠ 0 → eds ≠ ed2 := fun hc => by
    have e9 := (hs.cap0 hc).2
    rcases hed with ⟨e, hc3⟩ | e
    · rw [e]
      exact (h10 hc3 hc).symm
    · exact fun z => by rw [← z, e9] at e; cases e
  have hep : h2 eds = h eds := by
    obtain ⟨t9, e9⟩ := hs.arr
    rw [e9]
    refine hfr _ _ e9 (ne_at e9 hp.1 (fun e => by cases e)) ?_
    by_cases hc : capp = 0
    · exact Or.inr hc
    · exact Or.inl (hs.ne hp hc (fun z => (h10 hc z).symm))
  refine ⟨k1 _ _ h1 (fun _ _ _ e => by cases e) (fun _ _ e => by cases e), hl, hs.kept ((hfr _ _ hs.1 h9.symm (Or.inl (hp.ned hs.1 (fun _ _ e => by cases e)))).trans hs.1.symm) hep, fun i hi => ?_, fun i hi => ⟨(h5 i hi).1, k1 _ _ (h5 i hi).2 (fun _ _ _ e => by cases e) (fun _ _ e => by cases e)⟩, hn, h7, h8, h9, fun _ hc => (hee hc).symm⟩
  by_cases z : i = np
  · subst z
    exact ⟨by rw [hgn]; exact congrArg some (if_pos rfl).symm, by
      show h2 (if i = i then q else pa i) = some (tg, oPer (if i = i then r else P i))
      rw [if_pos rfl, if_pos rfl]; exact hq2⟩
  · exact ⟨by rw [hg i (by omega), (h4 i (by omega)).1]; exact congrArg some (if_neg z).symm, by
      show h2 (if i = np then q else pa i) = some (tg, oPer (if i = np then r else P i))
      rw [if_neg z, if_neg z]; exact k1 _ _ (h4 i (by omega)).2 (fun _ _ _ e => by cases e) (fun _ _ e => by cases e)⟩

set_option maxHeartbeats 4000000 in
set_option maxRecDepth 100000 in
theorem k_X3_append {l : Launch} {s0 : State} {a0 : Array Value} {G : GG} (X : CX l s0 a0 G) {h : AH} {tg pl Lp edp capp np Ls eds caps ns : Nat} {mdp mds kf : Int32} {gp gs : Nat → Option Nat} {pa sa : Nat → Nat} {P S : Nat → Nat → Int32} {cb : Nat → Int32} (htg : tg ≠ 0) (w : PlF G h tg pl Lp edp capp mdp np gp pa P Ls eds caps mds ns gs sa S cb kf) (hn : ns < 10) (x1 x2 x3 x4 x5 x6 : Int32)  : Con l s0 G yX3_append cX3_append 8 (some .int) 8 2 25 tg [.ref pl, .int x1, .int x2, .int x3, .int x4, .int x5, .int x6] h (fun r h2 => some (.int (nI ns)) = r ∧ ∃ gs2 sa2 eds2 caps2 mds2, PlF G h2 tg pl Lp edp capp mdp np gp pa P Ls eds2 caps2 mds2 (ns + 1) gs2 sa2 (upF S ns (r6 x1 x2 x3 x4 x5 x6)) (fun i => if i = ns then (bcS P x1 x3 x5 np 0 0) else cb i) kf ∧ ((eds2 = eds ∧ caps ≠ 0) ∨ h eds2 = none) ∧ caps2 ≠ 0 ∧ ∀ a c, h a = some c → a ≠ pl → a ≠ Ls → (a ≠ eds ∨ caps = 0) → (∀ i, i < ns → a ≠ sa i) → h2 a = some c) := by
  refine Con.of X (by decide +kernel) [some (.ref pl), some (.int x1), some (.int x2), some (.int x3), some (.int x4), some (.int x5), some (.int x6), none] rfl (Nat.le_of_ble_eq_true rfl) (fun p e s m below meth c X hnm hret => ?_)
  have w0 := w
  obtain ⟨hpl, hlp, hls, hP, hS, hn8, hn10, hinj, hpp, hee⟩ := w
  refine aw_ald0 X dX3_append_0 rfl ?_
  refine aw_ild1 X dX3_append_1 rfl ?_
  refine aw_ild3 X dX3_append_2 rfl ?_
  refine aw_ild5 X dX3_append_3 rfl ?_
  refine aw_callV X dX3_append_5 rfl (k_X3_breachOfCycle X.1 w0 x1 x3 x5) cmX3_breachOfCycle ml_X3_47 rfl hpl rfl rfl (Nat.le_of_ble_eq_true rfl) ⟨Nat.le_of_ble_eq_true rfl, Nat.le_of_ble_eq_true rfl⟩ (aw_rs ?_)
  refine aw_ist7 X dX3_append_8 rfl (by decide) rfl ?_
  refine aw_ald0 X dX3_append_10 rfl ?_
  refine aw_get X fd_X3_18 dX3_append_11 rfl hpl rfl ?_
  refine aw_new X nw_X3_51 dX3_append_14 rfl (fun q14 hq14 => ?_)
  refine aw_dup X dX3_append_17 rfl rfl ?_
  refine aw_ild1 X dX3_append_18 rfl ?_
  refine aw_ild2 X dX3_append_19 rfl ?_
  refine aw_ild3 X dX3_append_20 rfl ?_
  refine aw_ild4 X dX3_append_21 rfl ?_
  refine aw_ild5 X dX3_append_23 rfl ?_
  refine aw_ild6 X dX3_append_25 rfl ?_
  refine aw_ild7 X dX3_append_27 rfl ?_
  refine aw_callI X dX3_append_29 rfl (k_X4_init X.1 htg x1 x2 x3 x4 x5 x6 (bcS P x1 x3 x5 np 0 0) hu_s) cmX4_init ml_X3_53 rfl rfl (Nat.le_of_ble_eq_true rfl) ⟨Nat.le_of_ble_eq_true rfl, Nat.le_of_ble_eq_true rfl⟩ (aw_rv ?_)
  rw [hu_hu]
  change AW p l e _ s m _ below meth c _ s0 G 8 tg _ (hu h q14 (tg, cScn (r6 x1 x2 x3 x4 x5 x6) (x4f (bcS P x1 x3 x5 np 0 0) 0 0 0))) _ _ _ _ _
  have hlB : LI G (hu h q14 (tg, cScn (r6 x1 x2 x3 x4 x5 x6) (x4f (bcS P x1 x3 x5 np 0 0) 0 0 0))) tg Ls ns gs eds caps mds := by
    obtain ⟨t9, e9⟩ := hls.arr
    exact hls.kept ((hu_k hq14 hls.1).trans hls.1.symm) ((hu_k hq14 e9).trans e9.symm)
  have hqL : q14 ≠ Ls := fun e => by rw [e, hls.1] at hq14; cases hq14
  have hqE : q14 ≠ eds := fun e => by
    obtain ⟨t9, e9⟩ := hls.arr
    rw [e, e9] at hq14; cases hq14
  refine aw_callV X dX3_append_32 rfl (k_ladd X.1 htg hlB (by omega) (fun j hj => ⟨sa j, tg, _, (hS j hj).1, hu_k hq14 (hS j hj).2, ob_scn⟩) hu_s ob_scn hqL) cmJx4a65c_add_9ea2d ml_X3_35 rfl hlB.1 rfl rfl (Nat.le_of_ble_eq_true rfl) ⟨Nat.le_of_ble_eq_true rfl, Nat.le_of_ble_eq_true rfl⟩ (fun r h2 hq hf => ?_)
  obtain ⟨rfl, ed2, cap2, g2, md2, hl2, hc2, hg2, hgn, hed, hfr⟩ := hq
  have hed' : (ed2 = eds ∧ caps ≠ 0) ∨ h ed2 = none := hed.imp id (fun e => by
    by_cases z : ed2 = q14
    · rw [z, hu_s] at e; cases e
    · rwa [hu_n z] at e)
  have w2 := w0.addS (x := x4f (bcS P x1 x3 x5 np 0 0) 0 0 0) hq14 hl2 hc2 hg2 hgn hed' (fun a c e => hfr a c (hu_k hq14 e)) (hfr _ _ hu_s hqL (Or.inl hqE)) hn
  refine aw_pop X dX3_append_35 rfl rfl ?_
  refine aw_ald0 X dX3_append_36 rfl ?_
  refine aw_callV X dX3_append_37 rfl (k_refresh X.1 (cb := fun i => if i = ns then bcS P x1 x3 x5 np 0 0 else cb i) htg w2 (funext fun i => by
      unfold upF
      by_cases z : i = ns
      · rw [if_pos z, if_pos z]; rfl
      · rw [if_neg z, if_neg z]; rfl)) cmX3_refresh ml_X3_44 rfl w2.1 rfl rfl (Nat.le_of_ble_eq_true rfl) ⟨Nat.le_of_ble_eq_true rfl, Nat.le_of_ble_eq_true rfl⟩ (fun r h3 hq hf => ?_)
  obtain ⟨rfl, hw3, hk3⟩ := hq
  refine aw_ald0 X dX3_append_40 rfl ?_
  refine aw_get X fd_X3_18 dX3_append_41 rfl hw3.1 rfl ?_
  refine aw_callV X dX3_append_44 rfl (k_size X.1 hw3.2.2.1) cmJx4a65c_size_8abf5 ml_X3_31 rfl hw3.2.2.1.1 rfl rfl (Nat.le_of_ble_eq_true rfl) ⟨Nat.le_of_ble_eq_true rfl, Nat.le_of_ble_eq_true rfl⟩ (aw_rs ?_)
  refine aw_iconst X (1) dX3_append_47 (by decide) rfl ?_
  refine aw_isub X dX3_append_48 rfl ?_
  exact aw_iret X hret rfl dX3_append_49 (⟨by rw [← nI_1]; exact congrArg (fun x => some (Value.int x)) (by rw [Int32.add_sub_cancel]), g2, _, ed2, cap2, md2, hw3, hed', hc2, fun a c e n1 n2 n3 n4 => (hk3 a n1 (fun i hi => by
      show a ≠ (if i = ns then q14 else sa i)
      by_cases z : i = ns
      · rw [if_pos z]; exact fun y => by rw [y, hq14] at e; cases e
      · rw [if_neg z]; exact n4 i (by omega))).trans (hfr a c (hu_k hq14 e) n2 n3)⟩)

set_option maxHeartbeats 4000000 in
set_option maxRecDepth 100000 in
theorem k_X3_tell {l : Launch} {s0 : State} {a0 : Array Value} {G : GG} (X : CX l s0 a0 G) {h : AH} {tg pl Lp edp capp np Ls eds caps ns : Nat} {mdp mds kf : Int32} {gp gs : Nat → Option Nat} {pa sa : Nat → Nat} {P S : Nat → Nat → Int32} {cb : Nat → Int32} (htg : tg ≠ 0) (w : PlF G h tg pl Lp edp capp mdp np gp pa P Ls eds caps mds ns gs sa S cb kf) (hn : np < 8) {v : Nat} {r : Nat → Int32} (hv : h v = some (tg, oPer r))  : Con l s0 G yX3_tell cX3_tell 3 (some .int) 8 1 15 tg [.ref pl, .ref v] h (fun r9 h2 => some (.int (nI np)) = r9 ∧ ∃ edp2 capp2 mdp2 gp2 pa2, PlF G h2 tg pl Lp edp2 capp2 mdp2 (np + 1) gp2 pa2 (upF P np r) Ls eds caps mds ns gs sa S cb (if r 5 = 0 then kf else kf ||| ((1 : Int32) <<< (nI np &&& 31))) ∧ ((edp2 = edp ∧ capp ≠ 0) ∨ h edp2 = none) ∧ capp2 ≠ 0 ∧ ∀ a c, h a = some c → a ≠ pl → a ≠ Lp → (a ≠ edp ∨ capp = 0) → (∀ i, i < ns → a ≠ sa i) → h2 a = some c) := by
  refine Con.of X (by decide +kernel) [some (.ref pl), some (.ref v), none] rfl (Nat.le_of_ble_eq_true rfl) (fun p e s m below meth c X hnm hret => ?_)
  have w0 := w
  obtain ⟨hpl, hlp, hls, hP, hS, hn8, hn10, hinj, hpp, hee⟩ := w
  refine aw_ald0 X dX3_tell_0 rfl ?_
  refine aw_get X fd_X3_12 dX3_tell_1 rfl hpl rfl ?_
  refine aw_callV X dX3_tell_4 rfl (k_size X.1 hlp) cmJx4a65c_size_8abf5 ml_X3_31 rfl hlp.1 rfl rfl (Nat.le_of_ble_eq_true rfl) ⟨Nat.le_of_ble_eq_true rfl, Nat.le_of_ble_eq_true rfl⟩ (aw_rs ?_)
  refine aw_ist2 X dX3_tell_7 rfl (by decide) rfl ?_
  refine aw_ald0 X dX3_tell_8 rfl ?_
  refine aw_get X fd_X3_12 dX3_tell_9 rfl hpl rfl ?_
  refine aw_ald1 X dX3_tell_12 rfl ?_
  refine aw_callV X dX3_tell_13 rfl (k_ladd X.1 htg hlp (by omega) (fun j hj => ⟨pa j, tg, _, (hP j hj).1, (hP j hj).2, ob_per⟩) hv ob_per (hlp.nl hv (fun _ _ _ e => by cases e))) cmJx4a65c_add_9ea2d ml_X3_35 rfl hlp.1 rfl rfl (Nat.le_of_ble_eq_true rfl) ⟨Nat.le_of_ble_eq_true rfl, Nat.le_of_ble_eq_true rfl⟩ (fun r h2 hq hf => ?_)
  obtain ⟨rfl, ed2, cap2, g2, md2, hl2, hc2, hg2, hgn, hed, hfr⟩ := hq
  have hv2 := hfr _ _ hv (hlp.nl hv (fun _ _ _ e => by cases e)) (Or.inl (hlp.ned hv (fun _ _ e => by cases e)))
  have w2 := w0.addP hl2 hc2 hg2 hgn hed hfr hv2 hn
  refine aw_pop X dX3_tell_16 rfl rfl ?_
  refine aw_ald1 X dX3_tell_17 rfl ?_
  refine aw_get X fd_X3_39 dX3_tell_18 rfl hv2 rfl ?_
  refine aw_if_eq (n2 := 36) X dX3_tell_21 rfl rfl (fun c21 => ?_) (fun c21 => ?_)
  · refine aw_ald0 X dX3_tell_36 rfl ?_
    refine aw_callV X dX3_tell_37 rfl (k_refresh X.1 htg w2 rfl) cmX3_refresh ml_X3_44 rfl w2.1 rfl rfl (Nat.le_of_ble_eq_true rfl) ⟨Nat.le_of_ble_eq_true rfl, Nat.le_of_ble_eq_true rfl⟩ (fun r h3 hq hf => ?_)
    obtain ⟨rfl, hw3, hk3⟩ := hq
    refine aw_ild2 X dX3_tell_40 rfl ?_
    exact aw_iret X hret rfl dX3_tell_41 (⟨rfl, ed2, cap2, md2, g2, _, by rw [if_pos c21]; exact hw3, hed, hc2, fun a c e n1 n2 n3 n4 => (hk3 a n1 n4).trans (hfr a c e n2 n3)⟩)
  · refine aw_ald0 X dX3_tell_24 rfl ?_
    refine aw_dup X dX3_tell_25 rfl rfl ?_
    refine aw_get X fd_X3_21 dX3_tell_26 rfl w2.1 rfl ?_
    refine aw_iconst X (1) dX3_tell_29 (by decide) rfl ?_
    refine aw_ild2 X dX3_tell_30 rfl ?_
    refine aw_ishl X dX3_tell_31 rfl ?_
    refine aw_ior X dX3_tell_32 rfl ?_
    refine aw_put X fd_X3_21 fw_X3_2 dX3_tell_33 rfl htg w2.1 rfl rfl (Nat.le_of_ble_eq_true rfl) ?_
    have w3 := w2.putP (kf ||| ((1 : Int32) <<< (nI np &&& 31))) (rN S cb kf ns) (rB S ns)
    refine aw_ald0 X dX3_tell_36 rfl ?_
    refine aw_callV X dX3_tell_37 rfl (k_refresh X.1 htg w3 rfl) cmX3_refresh ml_X3_44 rfl w3.1 rfl rfl (Nat.le_of_ble_eq_true rfl) ⟨Nat.le_of_ble_eq_true rfl, Nat.le_of_ble_eq_true rfl⟩ (fun r h3 hq hf => ?_)
    obtain ⟨rfl, hw3, hk3⟩ := hq
    refine aw_ild2 X dX3_tell_40 rfl ?_
    exact aw_iret X hret rfl dX3_tell_41 (⟨rfl, ed2, cap2, md2, g2, _, by rw [if_neg c21]; exact hw3, hed, hc2, fun a c e n1 n2 n3 n4 => (hk3 a n1 n4).trans ((hu_n n1).trans (hfr a c e n2 n3))⟩)

set_option maxHeartbeats 4000000 in
set_option maxRecDepth 100000 in
theorem k_X3_init {l : Launch} {s0 : State} {a0 : Array Value} {G : GG} (X : CX l s0 a0 G) {h : AH} {a tg : Nat} (htg : tg ≠ 0) (ha : h a = some (tg, .inr (5, [.null, .null, .int 0, .int 0, .int 0]))) : Con l s0 G yX3_init cX3_init 1 none 4 2 6 tg [.ref a] h (fun r h2 => none = r ∧ ∃ q1 q2, h q1 = none ∧ h q2 = none ∧ q1 ≠ q2 ∧ hu (hu (hu h q1 (tg, oLst 0 (G.2.2 0) 0)) q2 (tg, oLst 0 (G.2.2 0) 0)) a (tg, .inr (5, [.ref q1, .ref q2, .int 0, .int 0, .int 0])) = h2) := by
  refine Con.of X (by decide +kernel) [some (.ref a)] rfl (Nat.le_of_ble_eq_true rfl) (fun p e s m below meth c X hnm hret => ?_)
  refine aw_ald0 X dX3_init_0 rfl ?_
  refine aw_objInit X dX3_init_1 rfl ⟨ml_X3_3, oi_ok⟩ (Nat.le_of_ble_eq_true rfl) (Nat.le_of_ble_eq_true rfl) ?_
  refine aw_ald0 X dX3_init_4 rfl ?_
  refine aw_new X nw_X3_9 dX3_init_5 rfl (fun q5 hq5 => ?_)
  refine aw_dup X dX3_init_8 rfl rfl ?_
  refine aw_callI X dX3_init_9 rfl (k_Jx4a65c_init_da8c8 X.1 htg hu_s) cmJx4a65c_init_da8c8 ml_X3_11 rfl rfl (Nat.le_of_ble_eq_true rfl) ⟨Nat.le_of_ble_eq_true rfl, Nat.le_of_ble_eq_true rfl⟩ (aw_rv ?_)
  refine aw_putF X fd_X3_12 fi_X3_0 hnm dX3_init_12 rfl htg ((hu_n (fun e => by rw [← e, ha] at hq5; cases hq5)).trans (hu_k hq5 ha)) rfl rfl (Nat.le_of_ble_eq_true rfl) ?_
  refine aw_ald0 X dX3_init_15 rfl ?_
  refine aw_new X nw_X3_9 dX3_init_16 rfl (fun q16 hq16 => ?_)
  refine aw_dup X dX3_init_19 rfl rfl ?_
  refine aw_callI X dX3_init_20 rfl (k_Jx4a65c_init_da8c8 X.1 htg hu_s) cmJx4a65c_init_da8c8 ml_X3_11 rfl rfl (Nat.le_of_ble_eq_true rfl) ⟨Nat.le_of_ble_eq_true rfl, Nat.le_of_ble_eq_true rfl⟩ (aw_rv ?_)
  refine aw_putF X fd_X3_18 fi_X3_1 hnm dX3_init_23 rfl htg ((hu_n (fun e => by rw [← e, hu_s] at hq16; cases hq16)).trans (hu_k hq16 hu_s)) rfl rfl (Nat.le_of_ble_eq_true rfl) ?_
  refine aw_ald0 X dX3_init_26 rfl ?_
  refine aw_iconst X (0) dX3_init_27 (by decide) rfl ?_
  refine aw_put X fd_X3_21 fw_X3_2 dX3_init_28 rfl htg hu_s rfl rfl (Nat.le_of_ble_eq_true rfl) ?_
  refine aw_ald0 X dX3_init_31 rfl ?_
  refine aw_iconst X (0) dX3_init_32 (by decide) rfl ?_
  refine aw_put X fd_X3_25 fw_X3_3 dX3_init_33 rfl htg hu_s rfl rfl (Nat.le_of_ble_eq_true rfl) ?_
  refine aw_ald0 X dX3_init_36 rfl ?_
  refine aw_iconst X (0) dX3_init_37 (by decide) rfl ?_
  refine aw_put X fd_X3_28 fw_X3_4 dX3_init_38 rfl htg hu_s rfl rfl (Nat.le_of_ble_eq_true rfl) ?_
  exact aw_vret X hret dX3_init_41 (⟨rfl, q5, q16, hq5, by
    have n1 : q16 ≠ a := fun e => by rw [e, hu_s] at hq16; cases hq16
    have n2 : q16 ≠ q5 := fun e => by rw [e, hu_n (fun e => by rw [e, ha] at hq5; cases hq5), hu_s] at hq16; cases hq16
    rw [hu_n n1, hu_n n2, hu_n n2] at hq16
    refine ⟨hq16, n2.symm, ?_⟩
    simp only [hu_hu]
    rw [hu_comm n1]
    conv => { rhs; rw [hu_comm n1, hu_hu] }
    rfl⟩)
