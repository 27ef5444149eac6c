/-! THE MODEL'S WORLD: the same night; persons, scenes, figures as rows of six -/
def cMod (t : Int32) (A : KA) (σ : NS) (sm : Int64) : AE := .inr (9, [.int t, .ref A.Lp, .ref A.Lf, .ref A.Ls, .int σ.mi, .int σ.di, .int σ.sw, .int (σ.o 0), .int (σ.o 1), .int (σ.o 2), .int (σ.o 3), .int σ.ti, .int σ.lp, .int σ.be, .int σ.ms, .int σ.sl, .int σ.off, .int (σ.o 4), .long sm])
/-- n rows of six in a list -/
def RwW (h : AH) (tg n : Nat) (g : Nat → Option Nat) (fa : Nat → Nat) (F : Nat → Nat → Int32) : Prop := ∀ k, k < n → g k = some (fa k) ∧ h (fa k) = some (tg, oRow 6 (F k))
def MoW (G : GG) (h : AH) (tg mo : Nat) (A : KA) (t : Int32) (sm : Int64) (σ : NS) : Prop :=
  h mo = some (tg, cMod t A σ sm) ∧ (LI G h tg A.Lp σ.np A.gp A.edp A.capp A.mdp ∧ LI G h tg A.Ls σ.ns A.gs A.eds A.caps A.mds ∧ LI G h tg A.Lf σ.nf A.gf A.edf A.capf A.mdf) ∧ (RwW h tg σ.np A.gp A.pa σ.P ∧ RwW h tg σ.ns A.gs A.sa σ.S ∧ RwW h tg σ.nf A.gf A.fa σ.F) ∧ (σ.np ≤ 8 ∧ σ.ns ≤ 10 ∧ σ.nf ≤ 12) ∧
  ((∀ j k, j < σ.ns → k < σ.ns → A.sa j = A.sa k → j = k) ∧ (∀ j k, j < σ.nf → k < σ.nf → A.fa j = A.fa k → j = k) ∧ (∀ j k, j < σ.np → k < σ.ns → A.pa j ≠ A.sa k) ∧ (∀ j k, j < σ.np → k < σ.nf → A.pa j ≠ A.fa k) ∧ (∀ j k, j < σ.ns → k < σ.nf → A.sa j ≠ A.fa k)) ∧
  (A.Lp ≠ A.Ls ∧ A.Lp ≠ A.Lf ∧ A.Ls ≠ A.Lf) ∧ ((A.capp ≠ 0 → A.caps ≠ 0 → A.edp ≠ A.eds) ∧ (A.capp ≠ 0 → A.capf ≠ 0 → A.edp ≠ A.edf) ∧ (A.caps ≠ 0 → A.capf ≠ 0 → A.eds ≠ A.edf))
theorem LI.keptK {G : GG} {h h2 : AH} {tg L n ed cap : Nat} {g : Nat → Option Nat} {md : Int32} (w : LI G h tg L n g ed cap md) (hk : ∀ a c, h a = some c → (kd c.2 = 1 ∨ kd c.2 = 103) → h2 a = some c) : LI G h2 tg L n g ed cap md := by
  obtain ⟨t1, e1⟩ := w.arr
  exact w.kept ((hk _ _ w.1 (Or.inl rfl)).trans w.1.symm) ((hk _ _ e1 (Or.inr rfl)).trans e1.symm)
theorem RwW.keptK {h h2 : AH} {tg n : Nat} {g : Nat → Option Nat} {fa : Nat → Nat} {F : Nat → Nat → Int32} (w : RwW h tg n g fa F) (hk : ∀ a c, h a = some c → kd c.2 = 100 → h2 a = some c) : RwW h2 tg n g fa F := fun k hk2 => ⟨(w k hk2).1, hk _ _ (w k hk2).2 rfl⟩
/-- another cell than the world's rows, lists and arrays changes nothing but the object -/
theorem MoW.obj {G : GG} {h : AH} {tg mo : Nat} {A : KA} {t : Int32} {sm : Int64} {σ : NS} (w : MoW G h tg mo A t sm σ) (t2 : Int32) (sm2 : Int64) (v : Nat → Int32) : MoW G (hu h mo (tg, cMod t2 A (σ.wV v) sm2)) tg mo A t2 sm2 (σ.wV v) := by
  obtain ⟨h1, ⟨a1, a2, a3⟩, ⟨b1, b2, b3⟩, h4⟩ := w
  have hk : ∀ a c, h a = some c → kd c.2 ≠ 9 → hu h mo (tg, cMod t2 A (σ.wV v) sm2) a = some c := fun a c e n => (hu_n (kk_ne e h1 n)).trans e
  exact ⟨hu_s, ⟨a1.keptK (fun a c e q => hk a c e (by omega)), a2.keptK (fun a c e q => hk a c e (by omega)), a3.keptK (fun a c e q => hk a c e (by omega))⟩, ⟨b1.keptK (fun a c e q => hk a c e (by omega)), b2.keptK (fun a c e q => hk a c e (by omega)), b3.keptK (fun a c e q => hk a c e (by omega))⟩, h4⟩
theorem MoW.objO {G : GG} {h : AH} {tg mo : Nat} {A : KA} {t : Int32} {sm : Int64} {σ : NS} (w : MoW G h tg mo A t sm σ) (t2 : Int32) (sm2 : Int64) (r : Nat → Int32) : MoW G (hu h mo (tg, cMod t2 A (σ.wO r) sm2)) tg mo A t2 sm2 (σ.wO r) := by
  obtain ⟨h1, ⟨a1, a2, a3⟩, ⟨b1, b2, b3⟩, h4⟩ := w
  have hk : ∀ a c, h a = some c → kd c.2 ≠ 9 → hu h mo (tg, cMod t2 A (σ.wO r) sm2) a = some c := fun a c e n => (hu_n (kk_ne e h1 n)).trans e
  exact ⟨hu_s, ⟨a1.keptK (fun a c e q => hk a c e (by omega)), a2.keptK (fun a c e q => hk a c e (by omega)), a3.keptK (fun a c e q => hk a c e (by omega))⟩, ⟨b1.keptK (fun a c e q => hk a c e (by omega)), b2.keptK (fun a c e q => hk a c e (by omega)), b3.keptK (fun a c e q => hk a c e (by omega))⟩, h4⟩
theorem MoW.objD {G : GG} {h : AH} {tg mo : Nat} {A : KA} {t : Int32} {sm : Int64} {σ : NS} (w : MoW G h tg mo A t sm σ) (t2 : Int32) (sm2 : Int64) (di sw : Int32) : MoW G (hu h mo (tg, cMod t2 A (σ.wD di sw) sm2)) tg mo A t2 sm2 (σ.wD di sw) := by
  obtain ⟨h1, ⟨a1, a2, a3⟩, ⟨b1, b2, b3⟩, h4⟩ := w
  have hk : ∀ a c, h a = some c → kd c.2 ≠ 9 → hu h mo (tg, cMod t2 A (σ.wD di sw) sm2) a = some c := fun a c e n => (hu_n (kk_ne e h1 n)).trans e
  exact ⟨hu_s, ⟨a1.keptK (fun a c e q => hk a c e (by omega)), a2.keptK (fun a c e q => hk a c e (by omega)), a3.keptK (fun a c e q => hk a c e (by omega))⟩, ⟨b1.keptK (fun a c e q => hk a c e (by omega)), b2.keptK (fun a c e q => hk a c e (by omega)), b3.keptK (fun a c e q => hk a c e (by omega))⟩, h4⟩
/-- fresh cells -/
theorem MoW.ext {G : GG} {h : AH} {tg mo : Nat} {A : KA} {t : Int32} {sm : Int64} {σ : NS} (w : MoW G h tg mo A t sm σ) {h2 : AH} (hk : ∀ a c, h a = some c → h2 a = some c) : MoW G h2 tg mo A t sm σ := by
  obtain ⟨h1, ⟨a1, a2, a3⟩, ⟨b1, b2, b3⟩, h4⟩ := w
  exact ⟨hk _ _ h1, ⟨a1.keptK (fun a c e _ => hk a c e), a2.keptK (fun a c e _ => hk a c e), a3.keptK (fun a c e _ => hk a c e)⟩, ⟨b1.keptK (fun a c e _ => hk a c e), b2.keptK (fun a c e _ => hk a c e), b3.keptK (fun a c e _ => hk a c e)⟩, h4⟩
theorem RwW.put {h : AH} {tg n : Nat} {g : Nat → Option Nat} {fa : Nat → Nat} {F : Nat → Nat → Int32} (w : RwW h tg n g fa F) (hi : ∀ j k, j < n → k < n → fa j = fa k → j = k) {k : Nat} (hk : k < n) (r : Nat → Int32) : RwW (hu h (fa k) (tg, oRow 6 r)) tg n g fa (upF F k r) := fun i hi2 => ⟨(w i hi2).1, by
  by_cases q : i = k
  · rw [q, hu_s, show upF F k r k = r from if_pos rfl]
  · rw [hu_n (fun e => q (hi i k hi2 hk e)), show upF F k r i = F i from if_neg q]
    exact (w i hi2).2⟩
theorem RwW.putN {h : AH} {tg n z : Nat} {g : Nat → Option Nat} {fa : Nat → Nat} {F : Nat → Nat → Int32} {c : AC} (w : RwW h tg n g fa F) (hz : ∀ j, j < n → fa j ≠ z) : RwW (hu h z c) tg n g fa F := fun i hi2 => ⟨(w i hi2).1, (hu_n (hz i hi2)).trans (w i hi2).2⟩
theorem MoW.fig {G : GG} {h : AH} {tg mo : Nat} {A : KA} {t : Int32} {sm : Int64} {σ : NS} (w : MoW G h tg mo A t sm σ) {k : Nat} (hk : k < σ.nf) (r : Nat → Int32) : MoW G (hu h (A.fa k) (tg, oRow 6 r)) tg mo A t sm (σ.fig k r) := by
  obtain ⟨h1, ⟨a1, a2, a3⟩, ⟨b1, b2, b3⟩, h4, ⟨d1, d2, d3, d4, d5⟩, h6⟩ := w
  have hz := (b3 k hk).2
  have hq : ∀ a c, h a = some c → kd c.2 ≠ 100 → hu h (A.fa k) (tg, oRow 6 r) a = some c := fun a c e n => (hu_n (kk_ne e hz n)).trans e
  exact ⟨hq _ _ h1 (show (9 : Nat) ≠ 100 by decide), ⟨a1.keptK (fun a c e q => hq a c e (by omega)), a2.keptK (fun a c e q => hq a c e (by omega)), a3.keptK (fun a c e q => hq a c e (by omega))⟩, ⟨b1.putN (fun j hj => d4 j k hj hk), b2.putN (fun j hj => d5 j k hj hk), b3.put d2 hk r⟩, h4, ⟨d1, d2, d3, d4, d5⟩, h6⟩
theorem MoW.scn {G : GG} {h : AH} {tg mo : Nat} {A : KA} {t : Int32} {sm : Int64} {σ : NS} (w : MoW G h tg mo A t sm σ) {k : Nat} (hk : k < σ.ns) (r : Nat → Int32) : MoW G (hu h (A.sa k) (tg, oRow 6 r)) tg mo A t sm (σ.wS σ.ns (upF σ.S k r)) := by
  obtain ⟨h1, ⟨a1, a2, a3⟩, ⟨b1, b2, b3⟩, h4, ⟨d1, d2, d3, d4, d5⟩, h6⟩ := w
  have hz := (b2 k hk).2
  have hq : ∀ a c, h a = some c → kd c.2 ≠ 100 → hu h (A.sa k) (tg, oRow 6 r) a = some c := fun a c e n => (hu_n (kk_ne e hz n)).trans e
  exact ⟨hq _ _ h1 (show (9 : Nat) ≠ 100 by decide), ⟨a1.keptK (fun a c e q => hq a c e (by omega)), a2.keptK (fun a c e q => hq a c e (by omega)), a3.keptK (fun a c e q => hq a c e (by omega))⟩, ⟨b1.putN (fun j hj => d3 j k hj hk), b2.put d1 hk r, b3.putN (fun j hj => (d5 k j hk hj).symm)⟩, h4, ⟨d1, d2, d3, d4, d5⟩, h6⟩
