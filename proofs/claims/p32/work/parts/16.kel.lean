/-! THE NIGHT: one state of numbers for the class and for the model -/
/-- persons, scenes, figures (counts and rows), lamp, orchestra, the night's numbers (0 minute, 1 tired, 2 last pitch, 3 bears, 4 missed, 5 slips, 6 offences) -/
def NS : Type := Nat × (Nat → Nat → Int32) × Nat × (Nat → Nat → Int32) × Nat × (Nat → Nat → Int32) × Int32 × Int32 × (Nat → Int32) × (Nat → Int32)
def NS.np (σ : NS) : Nat := σ.1
def NS.P (σ : NS) : Nat → Nat → Int32 := σ.2.1
def NS.ns (σ : NS) : Nat := σ.2.2.1
def NS.S (σ : NS) : Nat → Nat → Int32 := σ.2.2.2.1
def NS.nf (σ : NS) : Nat := σ.2.2.2.2.1
def NS.F (σ : NS) : Nat → Nat → Int32 := σ.2.2.2.2.2.1
def NS.di (σ : NS) : Int32 := σ.2.2.2.2.2.2.1
def NS.sw (σ : NS) : Int32 := σ.2.2.2.2.2.2.2.1
def NS.o (σ : NS) : Nat → Int32 := σ.2.2.2.2.2.2.2.2.1
def NS.v (σ : NS) : Nat → Int32 := σ.2.2.2.2.2.2.2.2.2
abbrev NS.mi (σ : NS) : Int32 := σ.v 0
abbrev NS.ti (σ : NS) : Int32 := σ.v 1
abbrev NS.lp (σ : NS) : Int32 := σ.v 2
abbrev NS.be (σ : NS) : Int32 := σ.v 3
abbrev NS.ms (σ : NS) : Int32 := σ.v 4
abbrev NS.sl (σ : NS) : Int32 := σ.v 5
abbrev NS.off (σ : NS) : Int32 := σ.v 6
def NS.wP (σ : NS) (n : Nat) (t : Nat → Nat → Int32) : NS := (n, t, σ.ns, σ.S, σ.nf, σ.F, σ.di, σ.sw, σ.o, σ.v)
def NS.wS (σ : NS) (n : Nat) (t : Nat → Nat → Int32) : NS := (σ.np, σ.P, n, t, σ.nf, σ.F, σ.di, σ.sw, σ.o, σ.v)
def NS.wF (σ : NS) (n : Nat) (t : Nat → Nat → Int32) : NS := (σ.np, σ.P, σ.ns, σ.S, n, t, σ.di, σ.sw, σ.o, σ.v)
def NS.wD (σ : NS) (x : Int32) (y : Int32) : NS := (σ.np, σ.P, σ.ns, σ.S, σ.nf, σ.F, x, y, σ.o, σ.v)
def NS.wO (σ : NS) (r : Nat → Int32) : NS := (σ.np, σ.P, σ.ns, σ.S, σ.nf, σ.F, σ.di, σ.sw, r, σ.v)
def NS.wV (σ : NS) (r : Nat → Int32) : NS := (σ.np, σ.P, σ.ns, σ.S, σ.nf, σ.F, σ.di, σ.sw, σ.o, r)
def iN (x : Int32) : Nat := x.toInt.toNat
theorem iN_nI {k : Nat} (h : k < 2 ^ 31) : iN (nI k) = k := by
  unfold iN nI
  first
    | (rw [Int32.toInt_ofNat_of_lt (by omega)]; exact Int.toNat_natCast k)
    | (simp; omega)
theorem nI_iN {x : Int32} {n : Nat} (h0 : 0 ≤ x) (h1 : x < nI n) (hn : n < 2 ^ 31) : x = nI (iN x) ∧ iN x < n := by
  have e0 : 0 ≤ x.toInt := by simpa using Int32.le_iff_toInt_le.mp h0
  have e1 : x.toInt < (nI n).toInt := Int32.lt_iff_toInt_lt.mp h1
  have e2 : (nI n).toInt = n := by
    unfold nI
    rw [Int32.toInt_ofNat_of_lt (by omega)]
  rw [e2] at e1
  have e3 : iN x < n := by unfold iN; omega
  refine ⟨?_, e3⟩
  apply Int32.toInt_inj.mp
  unfold nI
  rw [Int32.toInt_ofNat_of_lt (by omega)]
  unfold iN
  omega
theorem bI_n {c : Prop} [Decidable c] (h : bI c = 0) : ¬ c := bI_0.mp h
theorem bI_y {c : Prop} [Decidable c] (h : ¬ bI c = 0) : c := Decidable.of_not_not (fun q => h (bI_0.mpr q))
/-- who knew first -/
def kfS (P : Nat → Nat → Int32) (n : Nat) : Int32 := fo (fun i u => if P i 5 = 0 then u else u ||| ((1 : Int32) <<< (nI i &&& 31))) 0 n
/-- a breach of the cycle, scene by scene -/
def cbS (σ : NS) : Nat → Int32 := fun k => bcS σ.P (σ.S k 0) (σ.S k 2) (σ.S k 4) σ.np 0 0
/-- a figure's side -/
def sdS (σ : NS) : Nat → Int32 := fun k => σ.P (iN (σ.F k 0)) 0
/-- where the class's things lie -/
def LT : Type := Nat × Nat × Nat × Int32 × (Nat → Option Nat) × (Nat → Nat)
def KA : Type := Nat × Nat × Nat × LT × LT × LT
def KA.pl (A : KA) : Nat := A.1
def KA.sc (A : KA) : Nat := A.2.1
def KA.oc (A : KA) : Nat := A.2.2.1
def KA.Lp (A : KA) : Nat := A.2.2.2.1.1
def KA.edp (A : KA) : Nat := A.2.2.2.1.2.1
def KA.capp (A : KA) : Nat := A.2.2.2.1.2.2.1
def KA.mdp (A : KA) : Int32 := A.2.2.2.1.2.2.2.1
def KA.gp (A : KA) : Nat → Option Nat := A.2.2.2.1.2.2.2.2.1
def KA.pa (A : KA) : Nat → Nat := A.2.2.2.1.2.2.2.2.2
def KA.Ls (A : KA) : Nat := A.2.2.2.2.1.1
def KA.eds (A : KA) : Nat := A.2.2.2.2.1.2.1
def KA.caps (A : KA) : Nat := A.2.2.2.2.1.2.2.1
def KA.mds (A : KA) : Int32 := A.2.2.2.2.1.2.2.2.1
def KA.gs (A : KA) : Nat → Option Nat := A.2.2.2.2.1.2.2.2.2.1
def KA.sa (A : KA) : Nat → Nat := A.2.2.2.2.1.2.2.2.2.2
def KA.Lf (A : KA) : Nat := A.2.2.2.2.2.1
def KA.edf (A : KA) : Nat := A.2.2.2.2.2.2.1
def KA.capf (A : KA) : Nat := A.2.2.2.2.2.2.2.1
def KA.mdf (A : KA) : Int32 := A.2.2.2.2.2.2.2.2.1
def KA.gf (A : KA) : Nat → Option Nat := A.2.2.2.2.2.2.2.2.2.1
def KA.fa (A : KA) : Nat → Nat := A.2.2.2.2.2.2.2.2.2.2
def KA.wP (A : KA) (L ed cap : Nat) (md : Int32) (g : Nat → Option Nat) (fa : Nat → Nat) : KA := (A.1, A.2.1, A.2.2.1, (L, ed, cap, md, g, fa), A.2.2.2.2.1, A.2.2.2.2.2)
def KA.wS (A : KA) (L ed cap : Nat) (md : Int32) (g : Nat → Option Nat) (fa : Nat → Nat) : KA := (A.1, A.2.1, A.2.2.1, A.2.2.2.1, (L, ed, cap, md, g, fa), A.2.2.2.2.2)
def KA.wF (A : KA) (L ed cap : Nat) (md : Int32) (g : Nat → Option Nat) (fa : Nat → Nat) : KA := (A.1, A.2.1, A.2.2.1, A.2.2.2.1, A.2.2.2.2.1, (L, ed, cap, md, g, fa))
def cKel (A : KA) (σ : NS) : AE := .inr (8, [.ref A.pl, .ref A.sc, .ref A.oc, .int σ.mi, .int σ.ti, .int σ.lp, .int σ.be, .int σ.ms, .int σ.sl, .int σ.off])
def KelW (G : GG) (h : AH) (tg ke : Nat) (A : KA) (σ : NS) : Prop :=
  h ke = some (tg, cKel A σ) ∧ PlF G h tg A.pl A.Lp A.edp A.capp A.mdp σ.np A.gp A.pa σ.P A.Ls A.eds A.caps A.mds σ.ns A.gs A.sa σ.S (cbS σ) (kfS σ.P σ.np) ∧ ScW G h tg A.sc A.Lf A.edf A.capf A.mdf σ.nf A.gf A.fa σ.F (sdS σ) σ.di σ.sw ∧ h A.oc = some (tg, oOrc σ.o) ∧ A.Lf ≠ A.Lp ∧ A.Lf ≠ A.Ls ∧ (A.capf ≠ 0 → A.capp ≠ 0 → A.edf ≠ A.edp) ∧ (A.capf ≠ 0 → A.caps ≠ 0 → A.edf ≠ A.eds)
def kd (x : AE) : Nat := match x with
  | .inl z => 100 + z.1
  | .inr z => z.1
theorem PlW.kept {G : GG} {h h2 : AH} {tg pl Lp edp capp np Ls eds caps ns : Nat} {mdp mds kf br en : Int32} {gp gs : Nat → Option Nat} {pa sa : Nat → Nat} {P S Xc : Nat → Nat → Int32} (w : PlW G h tg pl Lp edp capp mdp np gp pa P Ls eds caps mds ns gs sa S Xc kf br en)
    (hk : ∀ a c, h a = some c → (kd c.2 = 4 ∨ kd c.2 = 5 ∨ kd c.2 = 6 ∨ a = Lp ∨ a = Ls ∨ a = edp ∨ a = eds) → h2 a = some c) : PlW G h2 tg pl Lp edp capp mdp np gp pa P Ls eds caps mds ns gs sa S Xc kf br en := by
  obtain ⟨h1, hp, hs, h4, h5, h6⟩ := w
  obtain ⟨t1, e1⟩ := hp.arr
  obtain ⟨t2, e2⟩ := hs.arr
  exact ⟨hk _ _ h1 (Or.inr (Or.inl rfl)), hp.kept ((hk _ _ hp.1 (by simp)).trans hp.1.symm) ((hk _ _ e1 (by simp)).trans e1.symm), hs.kept ((hk _ _ hs.1 (by simp)).trans hs.1.symm) ((hk _ _ e2 (by simp)).trans e2.symm), fun i hi => ⟨(h4 i hi).1, hk _ _ (h4 i hi).2 (Or.inl rfl)⟩, fun i hi => ⟨(h5 i hi).1, hk _ _ (h5 i hi).2 (Or.inr (Or.inr (Or.inl rfl)))⟩, h6⟩
theorem ScW.kept {G : GG} {h h2 : AH} {tg sc L ed cap n : Nat} {md di sw : Int32} {g : Nat → Option Nat} {fa : Nat → Nat} {F : Nat → Nat → Int32} {sd : Nat → Int32} (w : ScW G h tg sc L ed cap md n g fa F sd di sw)
    (hk : ∀ a c, h a = some c → (kd c.2 = 2 ∨ kd c.2 = 7 ∨ a = L ∨ a = ed) → h2 a = some c) : ScW G h2 tg sc L ed cap md n g fa F sd di sw := by
  obtain ⟨h1, hp, h4, h6⟩ := w
  obtain ⟨t1, e1⟩ := hp.arr
  exact ⟨hk _ _ h1 (Or.inr (Or.inl rfl)), hp.kept ((hk _ _ hp.1 (by simp)).trans hp.1.symm) ((hk _ _ e1 (by simp)).trans e1.symm), fun i hi => ⟨(h4 i hi).1, hk _ _ (h4 i hi).2 (Or.inl rfl)⟩, h6⟩
theorem kk_ne {h : AH} {a z : Nat} {c y : AC} (e : h a = some c) (hz : h z = some y) (n : kd c.2 ≠ kd y.2) : a ≠ z := ne_at e hz (fun q => n (by rw [q]))
theorem PlW.kept1 {G : GG} {h : AH} {tg pl Lp edp capp np Ls eds caps ns : Nat} {mdp mds kf br en : Int32} {gp gs : Nat → Option Nat} {pa sa : Nat → Nat} {P S Xc : Nat → Nat → Int32} (w : PlW G h tg pl Lp edp capp mdp np gp pa P Ls eds caps mds ns gs sa S Xc kf br en) {z : Nat} {y x : AC} (hz : h z = some y) (hx : kd y.2 = 2 ∨ kd y.2 = 3 ∨ kd y.2 = 7 ∨ kd y.2 = 8) : PlW G (hu h z x) tg pl Lp edp capp mdp np gp pa P Ls eds caps mds ns gs sa S Xc kf br en := by
  refine w.kept (fun a c e q => (hu_n (kk_ne e hz ?_)).trans e)
  obtain ⟨t1, e1⟩ := w.2.1.arr
  obtain ⟨t2, e2⟩ := w.2.2.1.arr
  have e3 := w.2.1.1
  have e4 := w.2.2.1.1
  rcases q with q | q | q | rfl | rfl | rfl | rfl
  · omega
  · omega
  · omega
  · rw [e3] at e; cases e; show 1 ≠ _; omega
  · rw [e4] at e; cases e; show 1 ≠ _; omega
  · rw [e1] at e; cases e; show 100 + 3 ≠ _; omega
  · rw [e2] at e; cases e; show 100 + 3 ≠ _; omega
theorem ScW.kept1 {G : GG} {h : AH} {tg sc L ed cap n : Nat} {md di sw : Int32} {g : Nat → Option Nat} {fa : Nat → Nat} {F : Nat → Nat → Int32} {sd : Nat → Int32} (w : ScW G h tg sc L ed cap md n g fa F sd di sw) {z : Nat} {y x : AC} (hz : h z = some y) (hx : kd y.2 = 3 ∨ kd y.2 = 4 ∨ kd y.2 = 5 ∨ kd y.2 = 6 ∨ kd y.2 = 8) : ScW G (hu h z x) tg sc L ed cap md n g fa F sd di sw := by
  refine w.kept (fun a c e q => (hu_n (kk_ne e hz ?_)).trans e)
  obtain ⟨t1, e1⟩ := w.2.1.arr
  have e3 := w.2.1.1
  rcases q with q | q | rfl | rfl
  · omega
  · omega
  · rw [e3] at e; cases e; show 1 ≠ _; omega
  · rw [e1] at e; cases e; show 100 + 3 ≠ _; omega
theorem KelW.own {G : GG} {h : AH} {tg ke : Nat} {A : KA} {σ : NS} (w : KelW G h tg ke A σ) (v : Nat → Int32) : KelW G (hu h ke (tg, cKel A (σ.wV v))) tg ke A (σ.wV v) := by
  obtain ⟨h1, h2, h3, h4, h5⟩ := w
  exact ⟨hu_s, h2.kept1 h1 (show (8 : Nat) = 2 ∨ 8 = 3 ∨ 8 = 7 ∨ 8 = 8 by decide), h3.kept1 h1 (show (8 : Nat) = 3 ∨ 8 = 4 ∨ 8 = 5 ∨ 8 = 6 ∨ 8 = 8 by decide), (hu_n (kk_ne h4 h1 (show (3 : Nat) ≠ 8 by decide))).trans h4, h5⟩
theorem KelW.orc {G : GG} {h : AH} {tg ke : Nat} {A : KA} {σ : NS} (w : KelW G h tg ke A σ) (r : Nat → Int32) : KelW G (hu h A.oc (tg, oOrc r)) tg ke A (σ.wO r) := by
  obtain ⟨h1, h2, h3, h4, h5⟩ := w
  exact ⟨(hu_n (kk_ne h1 h4 (show (8 : Nat) ≠ 3 by decide))).trans h1, h2.kept1 h4 (show (3 : Nat) = 2 ∨ 3 = 3 ∨ 3 = 7 ∨ 3 = 8 by decide), h3.kept1 h4 (show (3 : Nat) = 3 ∨ 3 = 4 ∨ 3 = 5 ∨ 3 = 6 ∨ 3 = 8 by decide), hu_s, h5⟩
theorem KelW.scr {G : GG} {h : AH} {tg ke : Nat} {A : KA} {σ : NS} (w : KelW G h tg ke A σ) (di sw : Int32) : KelW G (hu h A.sc (tg, .inr (7, [.ref A.Lf, .int di, .int sw]))) tg ke A (σ.wD di sw) := by
  obtain ⟨h1, h2, h3, h4, h5⟩ := w
  have hz := h3.1
  obtain ⟨z1, z2, z3, z4, z5⟩ := h3
  exact ⟨(hu_n (kk_ne h1 hz (show (8 : Nat) ≠ 7 by decide))).trans h1, h2.kept1 hz (show (7 : Nat) = 2 ∨ 7 = 3 ∨ 7 = 7 ∨ 7 = 8 by decide), ⟨hu_s, z2.kept (hu_n (kk_ne z2.1 hz (show (1 : Nat) ≠ 7 by decide))) (by
    obtain ⟨t1, e1⟩ := z2.arr
    exact hu_n (kk_ne e1 hz (show (103 : Nat) ≠ 7 by decide))), fun i hi => ⟨(z3 i hi).1, (hu_n (kk_ne (z3 i hi).2 hz (show (2 : Nat) ≠ 7 by decide))).trans (z3 i hi).2⟩, z4, z5⟩, (hu_n (kk_ne h4 hz (show (3 : Nat) ≠ 7 by decide))).trans h4, h5⟩
theorem sdS_up {σ : NS} {k : Nat} {r : Nat → Int32} (hr : r 0 = σ.F k 0) : sdS (σ.wF σ.nf (upF σ.F k r)) = sdS σ := by
  funext i
  show σ.P (iN (upF σ.F k r i 0)) 0 = σ.P (iN (σ.F i 0)) 0
  unfold upF
  by_cases q : i = k
  · rw [if_pos q, q, hr]
  · rw [if_neg q]
theorem KelW.fig {G : GG} {h : AH} {tg ke : Nat} {A : KA} {σ : NS} (w : KelW G h tg ke A σ) {k : Nat} (hk : k < σ.nf) (r : Nat → Int32) (hr : r 0 = σ.F k 0) : KelW G (hu h (A.fa k) (tg, cFig (sdS σ k) r)) tg ke A (σ.wF σ.nf (upF σ.F k r)) := by
  obtain ⟨h1, h2, h3, h4, h5⟩ := w
  have hz := (h3.2.2.1 k hk).2
  exact ⟨(hu_n (kk_ne h1 hz (show (8 : Nat) ≠ 2 by decide))).trans h1, h2.kept1 hz (show (2 : Nat) = 2 ∨ 2 = 3 ∨ 2 = 7 ∨ 2 = 8 by decide), by rw [sdS_up hr]; exact h3.put hk r, (hu_n (kk_ne h4 hz (show (3 : Nat) ≠ 2 by decide))).trans h4, h5⟩

theorem ScW.cong {G : GG} {h : AH} {tg sc L ed cap n : Nat} {md di sw : Int32} {g : Nat → Option Nat} {fa : Nat → Nat} {F : Nat → Nat → Int32} {sd sd2 : Nat → Int32} (w : ScW G h tg sc L ed cap md n g fa F sd di sw) (e : ∀ k, k < n → sd k = sd2 k) : ScW G h tg sc L ed cap md n g fa F sd2 di sw := by
  obtain ⟨h1, h2, h3, h4⟩ := w
  exact ⟨h1, h2, fun i hi => ⟨(h3 i hi).1, by rw [← e i hi]; exact (h3 i hi).2⟩, h4⟩
theorem fo_congr {α : Type} {g g2 : Nat → α → α} {a : α} {n : Nat} (e : ∀ i, i < n → ∀ u, g i u = g2 i u) : fo g a n = fo g2 a n := by
  induction n with
  | zero => rfl
  | succ n ih =>
    show g n (fo g a n) = g2 n (fo g2 a n)
    rw [ih (fun i hi => e i (by omega)), e n (by omega)]
theorem PlF.cb {G : GG} {h : AH} {tg pl Lp edp capp np Ls eds caps ns : Nat} {mdp mds kf : Int32} {gp gs : Nat → Option Nat} {pa sa : Nat → Nat} {P S : Nat → Nat → Int32} {cb cb2 : Nat → Int32} (w : PlF G h tg pl Lp edp capp mdp np gp pa P Ls eds caps mds ns gs sa S cb kf) (e : ∀ k, k < ns → cb k = cb2 k) : PlF G h tg pl Lp edp capp mdp np gp pa P Ls eds caps mds ns gs sa S cb2 kf := by
  have hb : ∀ k, k < ns → rBr S cb kf k = rBr S cb2 kf k := fun k hk => by unfold rBr; rw [e k hk]
  have hn : rN S cb kf ns = rN S cb2 kf ns := fo_congr (fun i hi u => by rw [hb i hi])
  unfold PlF
  rw [← hn]
  refine PlW.ext w (fun k hk => ?_)
  unfold rX
  rw [e k hk, hb k hk]
theorem KelW.figs {G : GG} {h : AH} {tg ke : Nat} {A : KA} {σ : NS} (w : KelW G h tg ke A σ) {h2 : AH} (F2 : Nat → Nat → Int32) (hF2 : ∀ i, F2 i 0 = σ.F i 0) (hs : ScW G h2 tg A.sc A.Lf A.edf A.capf A.mdf σ.nf A.gf A.fa F2 (sdS σ) σ.di σ.sw) (hk : ∀ a, (∀ i, i < σ.nf → a ≠ A.fa i) → h2 a = h a) : KelW G h2 tg ke A (σ.wF σ.nf F2) := by
  obtain ⟨h1, h2, h3, h4, h5⟩ := w
  have hf := fun i hi => (h3.2.2.1 i hi).2
  have e : sdS (σ.wF σ.nf F2) = sdS σ := funext fun i => by
    show σ.P (iN (F2 i 0)) 0 = σ.P (iN (σ.F i 0)) 0
    rw [hF2]
  refine ⟨(hk _ (fun i hi => kk_ne h1 (hf i hi) (show (8 : Nat) ≠ 2 by decide))).trans h1, h2.kept (fun a c e q => (hk a (fun i hi => kk_ne e (hf i hi) ?_)).trans e), by rw [e]; exact hs, (hk _ (fun i hi => kk_ne h4 (hf i hi) (show (3 : Nat) ≠ 2 by decide))).trans h4, h5⟩
  obtain ⟨t1, e1⟩ := h2.2.1.arr
  obtain ⟨t2, e2⟩ := h2.2.2.1.arr
  have e3 := h2.2.1.1
  have e4 := h2.2.2.1.1
  show kd c.2 ≠ 2
  rcases q with q | q | q | q | q | q | q
  · omega
  · omega
  · omega
  · rw [q, e3] at e; cases e; exact (show (1 : Nat) ≠ 2 by decide)
  · rw [q, e4] at e; cases e; exact (show (1 : Nat) ≠ 2 by decide)
  · rw [q, e1] at e; cases e; exact (show (103 : Nat) ≠ 2 by decide)
  · rw [q, e2] at e; cases e; exact (show (103 : Nat) ≠ 2 by decide)
/-- the screen's cells are none of a plot's list -/
theorem KelW.scrOf {G : GG} {h : AH} {tg ke : Nat} {A : KA} {σ : NS} (w : KelW G h tg ke A σ) {h2 : AH} {L ed cap n : Nat} {g : Nat → Option Nat} {md : Int32} (hL : LI G h tg L n g ed cap md) (n1 : A.Lf ≠ L) (n2 : A.capf ≠ 0 → cap ≠ 0 → A.edf ≠ ed) (hfr : ∀ a c, h a = some c → a ≠ L → (a ≠ ed ∨ cap = 0) → kd c.2 ≠ 5 → kd c.2 ≠ 6 → h2 a = some c) : ScW G h2 tg A.sc A.Lf A.edf A.capf A.mdf σ.nf A.gf A.fa σ.F (sdS σ) σ.di σ.sw ∧ h2 ke = some (tg, cKel A σ) ∧ h2 A.oc = some (tg, oOrc σ.o) := by
  obtain ⟨h1, -, h3, h4, h5⟩ := w
  obtain ⟨t1, e1⟩ := hL.arr
  have k1 : ∀ a c, h a = some c → kd c.2 ≠ 1 → kd c.2 ≠ 103 → kd c.2 ≠ 5 → kd c.2 ≠ 6 → h2 a = some c := fun a c e m1 m2 m3 m4 => hfr a c e (kk_ne e hL.1 m1) (Or.inl (kk_ne e e1 m2)) m3 m4
  refine ⟨h3.kept (fun a c e q => ?_), k1 _ _ h1 (show (8 : Nat) ≠ 1 by decide) (show (8 : Nat) ≠ 103 by decide) (show (8 : Nat) ≠ 5 by decide) (show (8 : Nat) ≠ 6 by decide), k1 _ _ h4 (show (3 : Nat) ≠ 1 by decide) (show (3 : Nat) ≠ 103 by decide) (show (3 : Nat) ≠ 5 by decide) (show (3 : Nat) ≠ 6 by decide)⟩
  rcases q with q | q | q | q
  · exact k1 a c e (by omega) (by omega) (by omega) (by omega)
  · exact k1 a c e (by omega) (by omega) (by omega) (by omega)
  · have e3 := h3.2.1.1
    rw [q, e3] at e
    cases e
    rw [q]
    exact hfr _ _ e3 n1 (Or.inl (kk_ne e3 e1 (show (1 : Nat) ≠ 103 by decide))) (show (1 : Nat) ≠ 5 by decide) (show (1 : Nat) ≠ 6 by decide)
  · obtain ⟨t3, e3⟩ := h3.2.1.arr
    rw [q, e3] at e
    cases e
    rw [q]
    refine hfr _ _ e3 (kk_ne e3 hL.1 (show (103 : Nat) ≠ 1 by decide)) ?_ (show (103 : Nat) ≠ 5 by decide) (show (103 : Nat) ≠ 6 by decide)
    by_cases hc : cap = 0
    · exact Or.inr hc
    · exact Or.inl (h3.2.1.ne hL hc (fun z => n2 z hc))
theorem KelW.plotS {G : GG} {h : AH} {tg ke : Nat} {A : KA} {σ : NS} (w : KelW G h tg ke A σ) {h2 : AH} {eds2 caps2 ns2 : Nat} {mds2 : Int32} {gs2 : Nat → Option Nat} {sa2 : Nat → Nat} {S2 : Nat → Nat → Int32} (hp : PlF G h2 tg A.pl A.Lp A.edp A.capp A.mdp σ.np A.gp A.pa σ.P A.Ls eds2 caps2 mds2 ns2 gs2 sa2 S2 (cbS (σ.wS ns2 S2)) (kfS σ.P σ.np)) (hed : (eds2 = A.eds ∧ (caps2 ≠ 0 → A.caps ≠ 0)) ∨ h eds2 = none) (hfr : ∀ a c, h a = some c → a ≠ A.pl → a ≠ A.Ls → (a ≠ A.eds ∨ A.caps = 0) → (∀ i, i < σ.ns → a ≠ A.sa i) → h2 a = some c) : KelW G h2 tg ke (A.wS A.Ls eds2 caps2 mds2 gs2 sa2) (σ.wS ns2 S2) := by
  have w0 := w
  obtain ⟨h1, hq, h3, h4, d1, d2, d3, d4⟩ := w
  obtain ⟨q1, q2, q3⟩ := w0.scrOf (h2 := h2) hq.2.2.1 d2 d4 (fun a c e m1 m2 m3 m4 => hfr a c e (kk_ne e hq.1 m3) m1 m2 (fun i hi => kk_ne e (hq.2.2.2.2.1 i hi).2 m4))
  refine ⟨q2, hp, q1, q3, d1, d2, d3, fun z1 z2 => ?_⟩
  rcases hed with ⟨e, hc⟩ | e
  · show A.edf ≠ eds2
    rw [e]
    exact d4 z1 (hc z2)
  · exact fun z => by
      have z9 : A.edf = eds2 := z
      rw [← z9, (h3.2.1.cap0 z1).2] at e
      cases e
theorem KelW.plotP {G : GG} {h : AH} {tg ke : Nat} {A : KA} {σ : NS} (w : KelW G h tg ke A σ) {h2 : AH} {edp2 capp2 np2 : Nat} {mdp2 : Int32} {gp2 : Nat → Option Nat} {pa2 : Nat → Nat} {P2 : Nat → Nat → Int32} (hp : PlF G h2 tg A.pl A.Lp edp2 capp2 mdp2 np2 gp2 pa2 P2 A.Ls A.eds A.caps A.mds σ.ns A.gs A.sa σ.S (cbS (σ.wP np2 P2)) (kfS P2 np2)) (hsd : ∀ k, k < σ.nf → sdS σ k = sdS (σ.wP np2 P2) k) (hed : (edp2 = A.edp ∧ (capp2 ≠ 0 → A.capp ≠ 0)) ∨ h edp2 = none) (hfr : ∀ a c, h a = some c → a ≠ A.pl → a ≠ A.Lp → (a ≠ A.edp ∨ A.capp = 0) → (∀ i, i < σ.ns → a ≠ A.sa i) → h2 a = some c) : KelW G h2 tg ke (A.wP A.Lp edp2 capp2 mdp2 gp2 pa2) (σ.wP np2 P2) := by
  have w0 := w
  obtain ⟨h1, hq, h3, h4, d1, d2, d3, d4⟩ := w
  obtain ⟨q1, q2, q3⟩ := w0.scrOf (h2 := h2) hq.2.1 d1 d3 (fun a c e m1 m2 m3 m4 => hfr a c e (kk_ne e hq.1 m3) m1 m2 (fun i hi => kk_ne e (hq.2.2.2.2.1 i hi).2 m4))
  refine ⟨q2, hp, q1.cong hsd, q3, d1, d2, fun z1 z2 => ?_, d4⟩
  rcases hed with ⟨e, hc⟩ | e
  · show A.edf ≠ edp2
    rw [e]
    exact d3 z1 (hc z2)
  · exact fun z => by
      have z9 : A.edf = edp2 := z
      rw [← z9, (h3.2.1.cap0 z1).2] at e
      cases e
theorem ff_cases {p : Nat → Prop} [DecidablePred p] {n : Nat} : ∀ j k, j + k = n → ff p j k = -1 ∨ ∃ i, i < n ∧ p i ∧ ff p j k = nI i := by
  intro j
  induction j with
  | zero => intro k _; exact Or.inl rfl
  | succ j ih =>
    intro k hk
    by_cases c : p k
    · exact Or.inr ⟨k, by omega, c, if_pos c⟩
    · have e : ff p (j + 1) k = ff p j (k + 1) := if_neg c
      rw [e]
      exact ih (k + 1) (by omega)
/-- the scene on -/
def onS (σ : NS) : Int32 := ff (fun k => σ.mi < rB σ.S k + σ.S k 3) σ.ns 0
theorem on_cases (σ : NS) : onS σ = -1 ∨ ∃ i, i < σ.ns ∧ onS σ = nI i := (ff_cases σ.ns 0 rfl).imp id (fun ⟨i, h1, _, h2⟩ => ⟨i, h1, h2⟩)
def castOn (σ : NS) : Int32 := if onS σ = -1 then 0 else σ.S (iN (onS σ)) 2
def strS (σ : NS) : Int32 := setF σ.F σ.nf &&& (castOn σ ^^^ (-1))
