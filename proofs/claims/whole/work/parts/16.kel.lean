/-! THE NIGHT: one state of numbers for the class and for the model -/
/-- persons, scenes, figures (counts and rows), lamp, orchestra, the night's numbers (0 minute, 1 tired, 2 last pitch, 3 bears, 4 missed, 5 slips, 6 offences) -/
def NS : Type := Nat × (Nat → Nat → Int32) × Nat × (Nat → Nat → Int32) × Nat × (Nat → Nat → Int32) × Int32 × Int32 × (Nat → Int32) × (Nat → Int32)
def NS.np (σ : NS) : Nat := σ.1
def NS.P (σ : NS) : Nat → Nat → Int32 := σ.2.1
def NS.ns (σ : NS) : Nat := σ.2.2.1
def NS.S (σ : NS) : Nat → Nat → Int32 := σ.2.2.2.1
def NS.nf (σ : NS) : Nat := σ.2.2.2.2.1
def NS.F (σ : NS) : Nat → Nat → Int32 := σ.2.2.2.2.2.1
def NS.di (σ : NS) : Int32 := σ.2.2.2.2.2.2.1
def NS.sw (σ : NS) : Int32 := σ.2.2.2.2.2.2.2.1
def NS.o (σ : NS) : Nat → Int32 := σ.2.2.2.2.2.2.2.2.1
def NS.v (σ : NS) : Nat → Int32 := σ.2.2.2.2.2.2.2.2.2
abbrev NS.mi (σ : NS) : Int32 := σ.v 0
abbrev NS.ti (σ : NS) : Int32 := σ.v 1
abbrev NS.lp (σ : NS) : Int32 := σ.v 2
abbrev NS.be (σ : NS) : Int32 := σ.v 3
abbrev NS.ms (σ : NS) : Int32 := σ.v 4
abbrev NS.sl (σ : NS) : Int32 := σ.v 5
abbrev NS.off (σ : NS) : Int32 := σ.v 6
def NS.wP (σ : NS) (n : Nat) (t : Nat → Nat → Int32) : NS := (n, t, σ.ns, σ.S, σ.nf, σ.F, σ.di, σ.sw, σ.o, σ.v)
def NS.wS (σ : NS) (n : Nat) (t : Nat → Nat → Int32) : NS := (σ.np, σ.P, n, t, σ.nf, σ.F, σ.di, σ.sw, σ.o, σ.v)
def NS.wF (σ : NS) (n : Nat) (t : Nat → Nat → Int32) : NS := (σ.np, σ.P, σ.ns, σ.S, n, t, σ.di, σ.sw, σ.o, σ.v)
def NS.wD (σ : NS) (x : Int32) (y : Int32) : NS := (σ.np, σ.P, σ.ns, σ.S, σ.nf, σ.F, x, y, σ.o, σ.v)
def NS.wO (σ : NS) (r : Nat → Int32) : NS := (σ.np, σ.P, σ.ns, σ.S, σ.nf, σ.F, σ.di, σ.sw, r, σ.v)
def NS.wV (σ : NS) (r : Nat → Int32) : NS := (σ.np, σ.P, σ.ns, σ.S, σ.nf, σ.F, σ.di, σ.sw, σ.o, r)
def iN (x : Int32) : Nat := x.toInt.toNat
theorem iN_nI {k : Nat} (h : k < 2 ^ 31) : iN (nI k) = k := by
  unfold iN nI
  first
    | (rw [Int32.toInt_ofNat_of_lt (by omega)]; exact Int.toNat_natCast k)
    | (simp; omega)
theorem nI_iN {x : Int32} {n : Nat} (h0 : 0 ≤ x) (h1 : x < nI n) (hn : n < 2 ^ 31) : x = nI (iN x) ∧ iN x < n := by
  have e0 : 0 ≤ x.toInt := by simpa using Int32.le_iff_toInt_le.mp h0
  have e1 : x.toInt < (nI n).toInt := Int32.lt_iff_toInt_lt.mp h1
  have e2 : (nI n).toInt = n := by
    unfold nI
    rw [Int32.toInt_ofNat_of_lt (by omega)]
  rw [e2] at e1
  have e3 : iN x < n := by unfold iN; omega
  refine ⟨?_, e3⟩
  apply Int32.toInt_inj.mp
  unfold nI
  rw [Int32.toInt_ofNat_of_lt (by omega)]
  unfold iN
  omega
theorem bI_n {c : Prop} [Decidable c] (h : bI c = 0) : ¬ c := bI_0.mp h
theorem bI_y {c : Prop} [Decidable c] (h : ¬ bI c = 0) : c := Decidable.of_not_not (fun q => h (bI_0.mpr q))
/-- who knew first -/
def kfS (P : Nat → Nat → Int32) (n : Nat) : Int32 := fo (fun i u => if P i 5 = 0 then u else u ||| ((1 : Int32) <<< (nI i &&& 31))) 0 n
/-- a breach of the cycle, scene by scene -/
def cbS (σ : NS) : Nat → Int32 := fun k => bcS σ.P (σ.S k 0) (σ.S k 2) (σ.S k 4) σ.np 0 0
/-- a figure's side -/
def sdS (σ : NS) : Nat → Int32 := fun k => σ.P (iN (σ.F k 0)) 0
/-- where the class's things lie -/
def LT : Type := Nat × Nat × Nat × Int32 × (Nat → Option Nat) × (Nat → Nat)
def KA : Type := Nat × Nat × Nat × LT × LT × LT
def KA.pl (A : KA) : Nat := A.1
def KA.sc (A : KA) : Nat := A.2.1
def KA.oc (A : KA) : Nat := A.2.2.1
def KA.Lp (A : KA) : Nat := A.2.2.2.1.1
def KA.edp (A : KA) : Nat := A.2.2.2.1.2.1
def KA.capp (A : KA) : Nat := A.2.2.2.1.2.2.1
def KA.mdp (A : KA) : Int32 := A.2.2.2.1.2.2.2.1
def KA.gp (A : KA) : Nat → Option Nat := A.2.2.2.1.2.2.2.2.1
def KA.pa (A : KA) : Nat → Nat := A.2.2.2.1.2.2.2.2.2
def KA.Ls (A : KA) : Nat := A.2.2.2.2.1.1
def KA.eds (A : KA) : Nat := A.2.2.2.2.1.2.1
def KA.caps (A : KA) : Nat := A.2.2.2.2.1.2.2.1
def KA.mds (A : KA) : Int32 := A.2.2.2.2.1.2.2.2.1
def KA.gs (A : KA) : Nat → Option Nat := A.2.2.2.2.1.2.2.2.2.1
def KA.sa (A : KA) : Nat → Nat := A.2.2.2.2.1.2.2.2.2.2
def KA.Lf (A : KA) : Nat := A.2.2.2.2.2.1
def KA.edf (A : KA) : Nat := A.2.2.2.2.2.2.1
def KA.capf (A : KA) : Nat := A.2.2.2.2.2.2.2.1
def KA.mdf (A : KA) : Int32 := A.2.2.2.2.2.2.2.2.1
def KA.gf (A : KA) : Nat → Option Nat := A.2.2.2.2.2.2.2.2.2.1
def KA.fa (A : KA) : Nat → Nat := A.2.2.2.2.2.2.2.2.2.2
def KA.wP (A : KA) (L ed cap : Nat) (md : Int32) (g : Nat → Option Nat) (fa : Nat → Nat) : KA := (A.1, A.2.1, A.2.2.1, (L, ed, cap, md, g, fa), A.2.2.2.2.1, A.2.2.2.2.2)
def KA.wS (A : KA) (L ed cap : Nat) (md : Int32) (g : Nat → Option Nat) (fa : Nat → Nat) : KA := (A.1, A.2.1, A.2.2.1, A.2.2.2.1, (L, ed, cap, md, g, fa), A.2.2.2.2.2)
def KA.wF (A : KA) (L ed cap : Nat) (md : Int32) (g : Nat → Option Nat) (fa : Nat → Nat) : KA := (A.1, A.2.1, A.2.2.1, A.2.2.2.1, A.2.2.2.2.1, (L, ed, cap, md, g, fa))
def cKel (A : KA) (σ : NS) : AE := .inr (8, [.ref A.pl, .ref A.sc, .ref A.oc, .int σ.mi, .int σ.ti, .int σ.lp, .int σ.be, .int σ.ms, .int σ.sl, .int σ.off])
def KelW (G : GG) (h : AH) (tg ke : Nat) (A : KA) (σ : NS) : Prop :=
  h ke = some (tg, cKel A σ) ∧ PlF G h tg A.pl A.Lp A.edp A.capp A.mdp σ.np A.gp A.pa σ.P A.Ls A.eds A.caps A.mds σ.ns A.gs A.sa σ.S (cbS σ) (kfS σ.P σ.np) ∧ ScW G h tg A.sc A.Lf A.edf A.capf A.mdf σ.nf A.gf A.fa σ.F (sdS σ) σ.di σ.sw ∧ h A.oc = some (tg, oOrc σ.o) ∧ A.Lf ≠ A.Lp ∧ A.Lf ≠ A.Ls ∧ (A.capf ≠ 0 → A.capp ≠ 0 → A.edf ≠ A.edp) ∧ (A.capf ≠ 0 → A.caps ≠ 0 → A.edf ≠ A.eds)
def kd (x : AE) : Nat := match x with
  | .inl z => 100 + z.1
  | .inr z => z.1
theorem PlW.kept {G : GG} {h h2 : AH} {tg pl Lp edp capp np Ls eds caps ns : Nat} {mdp mds kf br en : Int32} {gp gs : Nat → Option Nat} {pa sa : Nat → Nat} {P S Xc : Nat → Nat → Int32} (w : PlW G h tg pl Lp edp capp mdp np gp pa P Ls eds caps mds ns gs sa S Xc kf br en)
    (hk : ∀ a c, h a = some c → (kd c.2 = 4 ∨ kd c.2 = 5 ∨ kd c.2 = 6 ∨ a = Lp ∨ a = Ls ∨ a = edp ∨ a = eds) → h2 a = some c) : PlW G h2 tg pl Lp edp capp mdp np gp pa P Ls eds caps mds ns gs sa S Xc kf br en := by
  obtain ⟨h1, hp, hs, h4, h5, h6⟩ := w
  obtain ⟨t1, e1⟩ := hp.arr
  obtain ⟨t2, e2⟩ := hs.arr
  exact ⟨hk _ _ h1 (Or.inr (Or.inl rfl)), hp.kept ((hk _ _ hp.1 (by simp)).trans hp.1.symm) ((hk _ _ e1 (by simp)).trans e1.symm), hs.kept ((hk _ _ hs.1 (by simp)).trans hs.1.symm) ((hk _ _ e2 (by simp)).trans e2.symm), fun i hi => ⟨(h4 i hi).1, hk _ _ (h4 i hi).2 (Or.inl rfl)⟩, fun i hi => ⟨(h5 i hi).1, hk _ _ (h5 i hi).2 (Or.inr (Or.inr (Or.inl rfl)))⟩, h6⟩
theorem ScW.kept {G : GG} {h h2 : AH} {tg sc L ed cap n : Nat} {md di sw : Int32} {g : Nat → Option Nat} {fa : Nat → Nat} {F : Nat → Nat → Int32} {sd : Nat → Int32} (w : ScW G h tg sc L ed cap md n g fa F sd di sw)
    (hk : ∀ a c, h a = some c → (kd c.2 = 2 ∨ kd c.2 = 7 ∨ a = L ∨ a = ed) → h2 a = some c) : ScW G h2 tg sc L ed cap md n g fa F sd di sw := by
  obtain ⟨h1, hp, h4, h6⟩ := w
  obtain ⟨t1, e1⟩ := hp.arr
  exact ⟨hk _ _ h1 (Or.inr (Or.inl rfl)), hp.kept ((hk _ _ hp.1 (by simp)).trans hp.1.symm) ((hk _ _ e1 (by simp)).trans e1.symm), fun i hi => ⟨(h4 i hi).1, hk _ _ (h4 i hi).2 (Or.inl rfl)⟩, h6⟩
theorem kk_ne {h : AH} {a z : Nat} {c y : AC} (e : h a = some c) (hz : h z = some y) (n : kd c.2 ≠ kd y.2) : a ≠ z := ne_at e hz (fun q => n (by rw [q]))
theorem PlW.kept1 {G : GG} {h : AH} {tg pl Lp edp capp np Ls eds caps ns : Nat} {mdp mds kf br en : Int32} {gp gs : Nat → Option Nat} {pa sa : Nat → Nat} {P S Xc : Nat → Nat → Int32} (w : PlW G h tg pl Lp edp capp mdp np gp pa P Ls eds caps mds ns gs sa S Xc kf br en) {z : Nat} {y x : AC} (hz : h z = some y) (hx : kd y.2 = 2 ∨ kd y.2 = 3 ∨ kd y.2 = 7 ∨ kd y.2 = 8) : PlW G (hu h z x) tg pl Lp edp capp mdp np gp pa P Ls eds caps mds ns gs sa S Xc kf br en := by
  refine w.kept (fun a c e q => (hu_n (kk_ne e hz ?_)).trans e)
  obtain ⟨t1, e1⟩ := w.2.1.arr
  obtain ⟨t2, e2⟩ := w.2.2.1.arr
  have e3 := w.2.1.1
  have e4 := w.2.2.1.1
  rcases q with q | q | q | rfl | rfl | rfl | rfl
  · omega
  · omega
  · omega
  · rw [e3] at e; cases e; show 1 ≠ _; omega
  · rw [e4] at e; cases e; show 1 ≠ _; omega
  · rw [e1] at e; cases e; show 100 + 3 ≠ _; omega
  · rw [e2] at e; cases e; show 100 + 3 ≠ _; omega
theorem ScW.kept1 {G : GG} {h : AH} {tg sc L ed cap n : Nat} {md di sw : Int32} {g : Nat → Option Nat} {fa : Nat → Nat} {F : Nat → Nat → Int32} {sd : Nat → Int32} (w : ScW G h tg sc L ed cap md n g fa F sd di sw) {z : Nat} {y x : AC} (hz : h z = some y) (hx : kd y.2 = 3 ∨ kd y.2 = 4 ∨ kd y.2 = 5 ∨ kd y.2 = 6 ∨ kd y.2 = 8) : ScW G (hu h z x) tg sc L ed cap md n g fa F sd di sw := by
  refine w.kept (fun a c e q => (hu_n (kk_ne e hz ?_)).trans e)
  obtain ⟨t1, e1⟩ := w.2.1.arr
  have e3 := w.2.1.1
  rcases q with q | q | rfl | rfl
  · omega
  · omega
  · rw [e3] at e; cases e; show 1 ≠ _; omega
  · rw [e1] at e; cases e; show 100 + 3 ≠ _; omega
theorem KelW.own {G : GG} {h : AH} {tg ke : Nat} {A : KA} {σ : NS} (w : KelW G h tg ke A σ) (v : Nat → Int32) : KelW G (hu h ke (tg, cKel A (σ.wV v))) tg ke A (σ.wV v) := by
  obtain ⟨h1, h2, h3, h4, h5⟩ := w
  exact ⟨hu_s, h2.kept1 h1 (show (8 : Nat) = 2 ∨ 8 = 3 ∨ 8 = 7 ∨ 8 = 8 by decide), h3.kept1 h1 (show (8 : Nat) = 3 ∨ 8 = 4 ∨ 8 = 5 ∨ 8 = 6 ∨ 8 = 8 by decide), (hu_n (kk_ne h4 h1 (show (3 : Nat) ≠ 8 by decide))).trans h4, h5⟩
theorem KelW.orc {G : GG} {h : AH} {tg ke : Nat} {A : KA} {σ : NS} (w : KelW G h tg ke A σ) (r : Nat → Int32) : KelW G (hu h A.oc (tg, oOrc r)) tg ke A (σ.wO r) := by
  obtain ⟨h1, h2, h3, h4, h5⟩ := w
  exact ⟨(hu_n (kk_ne h1 h4 (show (8 : Nat) ≠ 3 by decide))).trans h1, h2.kept1 h4 (show (3 : Nat) = 2 ∨ 3 = 3 ∨ 3 = 7 ∨ 3 = 8 by decide), h3.kept1 h4 (show (3 : Nat) = 3 ∨ 3 = 4 ∨ 3 = 5 ∨ 3 = 6 ∨ 3 = 8 by decide), hu_s, h5⟩
theorem KelW.scr {G : GG} {h : AH} {tg ke : Nat} {A : KA} {σ : NS} (w : KelW G h tg ke A σ) (di sw : Int32) : KelW G (hu h A.sc (tg, .inr (7, [.ref A.Lf, .int di, .int sw]))) tg ke A (σ.wD di sw) := by
  obtain ⟨h1, h2, h3, h4, h5⟩ := w
  have hz := h3.1
  obtain ⟨z1, z2, z3, z4, z5⟩ := h3
  exact ⟨(hu_n (kk_ne h1 hz (show (8 : Nat) ≠ 7 by decide))).trans h1, h2.kept1 hz (show (7 : Nat) = 2 ∨ 7 = 3 ∨ 7 = 7 ∨ 7 = 8 by decide), ⟨hu_s, z2.kept (hu_n (kk_ne z2.1 hz (show (1 : Nat) ≠ 7 by decide))) (by
    obtain ⟨t1, e1⟩ := z2.arr
    exact hu_n (kk_ne e1 hz (show (103 : Nat) ≠ 7 by decide))), fun i hi => ⟨(z3 i hi).1, (hu_n (kk_ne (z3 i hi).2 hz (show (2 : Nat) ≠ 7 by decide))).trans (z3 i hi).2⟩, z4, z5⟩, (hu_n (kk_ne h4 hz (show (3 : Nat) ≠ 7 by decide))).trans h4, h5⟩
theorem sdS_up {σ : NS} {k : Nat} {r : Nat → Int32} (hr : r 0 = σ.F k 0) : sdS (σ.wF σ.nf (upF σ.F k r)) = sdS σ := by
  funext i
  show σ.P (iN (upF σ.F k r i 0)) 0 = σ.P (iN (σ.F i 0)) 0
  unfold upF
  by_cases q : i = k
  · rw [if_pos q, q, hr]
  · rw [if_neg q]
theorem KelW.fig {G : GG} {h : AH} {tg ke : Nat} {A : KA} {σ : NS} (w : KelW G h tg ke A σ) {k : Nat} (hk : k < σ.nf) (r : Nat → Int32) (hr : r 0 = σ.F k 0) : KelW G (hu h (A.fa k) (tg, cFig (sdS σ k) r)) tg ke A (σ.wF σ.nf (upF σ.F k r)) := by
  obtain ⟨h1, h2, h3, h4, h5⟩ := w
  have hz := (h3.2.2.1 k hk).2
  exact ⟨(hu_n (kk_ne h1 hz (show (8 : Nat) ≠ 2 by decide))).trans h1, h2.kept1 hz (show (2 : Nat) = 2 ∨ 2 = 3 ∨ 2 = 7 ∨ 2 = 8 by decide), by rw [sdS_up hr]; exact h3.put hk r, (hu_n (kk_ne h4 hz (show (3 : Nat) ≠ 2 by decide))).trans h4, h5⟩
