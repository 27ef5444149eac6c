/-! TOLD: persons, figures, scenes -/
/-- what always holds of a night -/
def IV (σ : NS) : Prop :=
  (σ.np ≤ 8 ∧ σ.ns ≤ 10 ∧ σ.nf ≤ 12) ∧
  (∀ k, k < σ.np → (σ.P k 0 = 0 ∨ σ.P k 0 = 1) ∧ (0 ≤ σ.P k 1 ∧ σ.P k 1 ≤ 3) ∧ (0 ≤ σ.P k 2 ∧ σ.P k 2 ≤ 9) ∧ (0 ≤ σ.P k 3 ∧ σ.P k 3 < σ.P k 4 ∧ σ.P k 4 ≤ 100) ∧ (σ.P k 5 = 0 ∨ σ.P k 5 = 1)) ∧
  (∀ k, k < σ.ns → (0 < σ.S k 2 ∧ σ.S k 2 < (1 : Int32) <<< (nI σ.np &&& 31)) ∧ (σ.S k 4 = -1 ∨ holdsP (σ.S k 2) (σ.S k 4)) ∧ (σ.S k 5 = -1 ∨ holdsP (σ.S k 2) (σ.S k 5)) ∧ (0 ≤ σ.S k 0 ∧ σ.S k 0 ≤ 100) ∧ (0 ≤ σ.S k 1 ∧ σ.S k 1 ≤ 3) ∧ (5 ≤ σ.S k 3 ∧ σ.S k 3 ≤ 90)) ∧
  (∀ k, k < σ.nf → (0 ≤ σ.F k 0 ∧ σ.F k 0 < nI σ.np) ∧ (10 ≤ σ.F k 1 ∧ σ.F k 1 ≤ 90) ∧ (0 ≤ σ.F k 2 ∧ σ.F k 2 ≤ 100) ∧ ((σ.F k 3 = 0 ∧ σ.F k 4 = -1 ∧ σ.F k 5 = 0) ∨ (σ.F k 3 = 1 ∧ (0 ≤ σ.F k 4 ∧ σ.F k 4 ≤ 9) ∧ σ.F k 5 = 0) ∨ ((σ.F k 3 = 2 ∨ σ.F k 3 = 3) ∧ (0 ≤ σ.F k 4 ∧ σ.F k 4 ≤ 9) ∧ 0 ≤ σ.F k 5 ∧ σ.F k 5 ≤ 15))) ∧
  (20 ≤ σ.di ∧ σ.di ≤ 80) ∧ (0 ≤ σ.sw ∧ σ.sw ≤ 9) ∧
  ((σ.o 0 = -1 ∧ σ.o 1 = 0 ∧ σ.o 2 = 0 ∧ σ.o 3 = 0) ∨ ((0 ≤ σ.o 0 ∧ σ.o 0 ≤ 3) ∧ (1 ≤ σ.o 1 ∧ σ.o 1 ≤ 3) ∧ (0 ≤ σ.o 2 ∧ σ.o 2 < cyc (σ.o 0)) ∧ (0 ≤ σ.o 3 ∧ σ.o 3 ≤ 3))) ∧
  (0 ≤ σ.mi ∧ σ.mi ≤ 540) ∧ (0 ≤ σ.ti ∧ σ.ti ≤ 100) ∧ (0 ≤ σ.lp ∧ σ.lp ≤ 9) ∧ (0 ≤ σ.be ∧ σ.be ≤ 30)
theorem pw2 : ∀ n, n < 9 → (1 : Int32) <<< (nI n &&& 31) = nI (2 ^ n) := by decide +kernel
theorem sm5 : ∀ n, n < 31 → ((nI n &&& 31).toBitVec.smod 32).toNat = n := by decide +kernel
/-- a cast of n persons has none beyond -/
theorem cast_lt {ca : Int32} {n j : Nat} (hn : n ≤ 8) (h0 : 0 < ca) (h1 : ca < (1 : Int32) <<< (nI n &&& 31)) (hj : n ≤ j) (hj2 : j < 31) : ¬ holdsP ca (nI j) := by
  rw [pw2 n (by omega)] at h1
  have hp : 2 ^ n ≤ 2 ^ 8 := Nat.pow_le_pow_right (by decide) hn
  rcases pk_ix ca (n := 2 ^ n) (by omega) with h | h | ⟨q, hq, e⟩
  · exact (Int32.lt_irrefl (Int32.lt_trans h0 h)).elim
  · exact absurd h (Int32.not_le.mpr h1)
  · intro hh
    have h2 := hh.2.2
    rw [e, pk_shrN (by omega) (nI j &&& 31) j (sm5 j hj2), Nat.div_eq_of_lt (Nat.lt_of_lt_of_le hq (Nat.pow_le_pow_right (by decide) hj))] at h2
    revert h2
    decide
theorem bcS_add {P : Nat → Nat → Int32} {r : Nat → Int32} {yr ca di : Int32} {n : Nat} (h1 : ¬ holdsP ca (nI n)) (h2 : ¬ nI n = di) : ∀ j k u, j + k = n → bcS (upF P n r) yr ca di (j + 1) k u = bcS P yr ca di j k u := by
  intro j
  induction j with
  | zero =>
    intro k u hk
    have hk9 : k = n := by omega
    subst hk9
    show (if holdsP ca (nI k) ∧ ¬ (upF P k r k 3 ≤ yr ∧ yr ≤ upF P k r k 4) then 1 else bcS (upF P k r) yr ca di 0 (k + 1) (if nI k = di ∧ ¬ upF P k r k 4 = yr then 2 else u)) = u
    rw [if_neg (fun q => h1 q.1), if_neg (fun q => h2 q.1)]
    rfl
  | succ j ih =>
    intro k u hk
    have e : upF P n r k = P k := if_neg (by omega)
    show (if holdsP ca (nI k) ∧ ¬ (upF P n r k 3 ≤ yr ∧ yr ≤ upF P n r k 4) then 1 else bcS (upF P n r) yr ca di (j + 1) (k + 1) (if nI k = di ∧ ¬ upF P n r k 4 = yr then 2 else u)) = (if holdsP ca (nI k) ∧ ¬ (P k 3 ≤ yr ∧ yr ≤ P k 4) then 1 else bcS P yr ca di j (k + 1) (if nI k = di ∧ ¬ P k 4 = yr then 2 else u))
    rw [e, ih (k + 1) _ (by omega)]
theorem kfS_add {P : Nat → Nat → Int32} {r : Nat → Int32} {n : Nat} : kfS (upF P n r) (n + 1) = if r 5 = 0 then kfS P n else kfS P n ||| ((1 : Int32) <<< (nI n &&& 31)) := by
  have e : fo (fun i u => if upF P n r i 5 = 0 then u else u ||| ((1 : Int32) <<< (nI i &&& 31))) 0 n = kfS P n := fo_congr (fun i hi u => by rw [show upF P n r i = P i from if_neg (by omega)])
  show (if upF P n r n 5 = 0 then fo (fun i u => if upF P n r i 5 = 0 then u else u ||| ((1 : Int32) <<< (nI i &&& 31))) 0 n else _) = _
  rw [e, show upF P n r n = r from if_pos rfl]
theorem KelW.new {G : GG} {h : AH} {tg ke : Nat} {A : KA} {σ : NS} (w : KelW G h tg ke A σ) {q : Nat} {c : AC} (hq : h q = none) : KelW G (hu h q c) tg ke A σ := by
  obtain ⟨h1, h2, h3, h4, h5⟩ := w
  exact ⟨hu_k hq h1, h2.kept (fun a c e _ => hu_k hq e), h3.kept (fun a c e _ => hu_k hq e), hu_k hq h4, h5⟩
theorem KelW.figAdd {G : GG} {h : AH} {tg ke : Nat} {A : KA} {σ : NS} (w : KelW G h tg ke A σ) {h2 : AH} {ed2 cap2 q : Nat} {g2 : Nat → Option Nat} {md2 : Int32} {r : Nat → Int32} (hq : h q = none) (hl : LI G h2 tg A.Lf (σ.nf + 1) g2 ed2 cap2 md2) (hc2 : cap2 ≠ 0) (hg : ∀ j, j < σ.nf → g2 j = A.gf j) (hgn : g2 σ.nf = some q) (hed : (ed2 = A.edf ∧ A.capf ≠ 0) ∨ h ed2 = none) (hfr : ∀ a c, h a = some c → a ≠ A.Lf → (a ≠ A.edf ∨ A.capf = 0) → h2 a = some c) (hq2 : h2 q = some (tg, cFig (σ.P (iN (r 0)) 0) r)) (hn : σ.nf < 12) : KelW G h2 tg ke (A.wF A.Lf ed2 cap2 md2 g2 (fun i => if i = σ.nf then q else A.fa i)) (σ.wF (σ.nf + 1) (upF σ.F σ.nf r)) := by
  obtain ⟨h1, hp, h3, h4, d1, d2, d3, d4⟩ := w
  obtain ⟨z1, z2, z3, z4, z5⟩ := h3
  obtain ⟨t1, e1⟩ := z2.arr
  have k1 : ∀ a c, h a = some c → kd c.2 ≠ 1 → kd c.2 ≠ 103 → h2 a = some c := fun a c e m1 m2 => hfr a c e (kk_ne e z2.1 m1) (Or.inl (kk_ne e e1 m2))
  have arr : ∀ {L ed cap n : Nat} {g : Nat → Option Nat} {md : Int32}, LI G h tg L n g ed cap md → A.Lf ≠ L → (A.capf ≠ 0 → cap ≠ 0 → A.edf ≠ ed) → h2 L = h L ∧ h2 ed = h ed := fun {L ed cap n g md} x n1 n2 => by
    obtain ⟨t9, e9⟩ := x.arr
    refine ⟨(hfr _ _ x.1 n1.symm (Or.inl (kk_ne x.1 e1 (show (1 : Nat) ≠ 103 by decide)))).trans x.1.symm, ?_⟩
    rw [e9]
    refine hfr _ _ e9 (kk_ne e9 z2.1 (show (103 : Nat) ≠ 1 by decide)) ?_
    by_cases hc : A.capf = 0
    · exact Or.inr hc
    · exact Or.inl (x.ne z2 hc (fun z => (n2 hc z).symm))
  obtain ⟨a1, a2⟩ := arr hp.2.1 d1 d3
  obtain ⟨a3, a4⟩ := arr hp.2.2.1 d2 d4
  have nq : ∀ i, i < σ.nf → A.fa i ≠ q := fun i hi z => by have := (z3 i hi).2; rw [z, hq] at this; cases this
  have hee : ∀ {L ed cap n : Nat} {g : Nat → Option Nat} {md : Int32}, LI G h tg L n g ed cap md → (A.capf ≠ 0 → cap ≠ 0 → A.edf ≠ ed) → cap ≠ 0 → ed2 ≠ ed := fun {L ed cap n g md} x n2 hc => by
    rcases hed with ⟨e, hc3⟩ | e
    · rw [e]; exact n2 hc3 hc
    · exact fun z => by rw [z, (x.cap0 hc).2] at e; cases e
  refine ⟨k1 _ _ h1 (show (8 : Nat) ≠ 1 by decide) (show (8 : Nat) ≠ 103 by decide), hp.kept (fun a c e x => ?_), ⟨k1 _ _ z1 (show (7 : Nat) ≠ 1 by decide) (show (7 : Nat) ≠ 103 by decide), hl, fun i hi => ?_, hn, fun a b ha hb e => ?_⟩, k1 _ _ h4 (show (3 : Nat) ≠ 1 by decide) (show (3 : Nat) ≠ 103 by decide), d1, d2, fun _ x => hee hp.2.1 d3 x, fun _ x => hee hp.2.2.1 d4 x⟩
  · rcases x with x | x | x | x | x | x | x
    · exact k1 a c e (by omega) (by omega)
    · exact k1 a c e (by omega) (by omega)
    · exact k1 a c e (by omega) (by omega)
    · rw [x, a1, ← x]; exact e
    · rw [x, a3, ← x]; exact e
    · rw [x, a2, ← x]; exact e
    · rw [x, a4, ← x]; exact e
  · by_cases z : i = σ.nf
    · subst z
      exact ⟨by
        show g2 σ.nf = some (if σ.nf = σ.nf then q else A.fa σ.nf)
        rw [hgn, if_pos rfl], by
        show h2 (if σ.nf = σ.nf then q else A.fa σ.nf) = some (tg, cFig (σ.P (iN (upF σ.F σ.nf r σ.nf 0)) 0) (upF σ.F σ.nf r σ.nf))
        rw [if_pos rfl, show upF σ.F σ.nf r σ.nf = r from if_pos rfl]; exact hq2⟩
    · have hi2 : i < σ.nf := by
        have : i < σ.nf + 1 := hi
        omega
      exact ⟨by
        show g2 i = some (if i = σ.nf then q else A.fa i)
        rw [hg i hi2, (z3 i hi2).1, if_neg z], by
        show h2 (if i = σ.nf then q else A.fa i) = some (tg, cFig (σ.P (iN (upF σ.F σ.nf r i 0)) 0) (upF σ.F σ.nf r i))
        rw [if_neg z, show upF σ.F σ.nf r i = σ.F i from if_neg z]; exact k1 _ _ (z3 i hi2).2 (show (2 : Nat) ≠ 1 by decide) (show (2 : Nat) ≠ 103 by decide)⟩
  · change (if a = σ.nf then q else A.fa a) = (if b = σ.nf then q else A.fa b) at e
    have ha2 : a < σ.nf + 1 := ha
    have hb2 : b < σ.nf + 1 := hb
    by_cases za : a = σ.nf
    · by_cases zb : b = σ.nf
      · rw [za, zb]
      · rw [if_pos za, if_neg zb] at e
        exact absurd e.symm (nq b (by omega))
    · by_cases zb : b = σ.nf
      · rw [if_neg za, if_pos zb] at e
        exact absurd e (nq a (by omega))
      · rw [if_neg za, if_neg zb] at e
        exact z5 a b (by omega) (by omega) e
def sp_person (σ : NS) (x y z u v9 w9 : Int32) : Rs := if out x 0 1 ∨ out y 0 3 ∨ out z 0 9 ∨ out u 0 99 ∨ v9 ≤ u ∨ ¬ v9 ≤ 100 then (1, 0, σ) else if ¬ σ.np < 8 then (2, 0, σ) else (0, nI σ.np, σ.wP (σ.np + 1) (upF σ.P σ.np (r6 x y z u v9 w9)))
def sp_figure (σ : NS) (x y : Int32) : Rs := if ¬ σ.isP x then (1, 0, σ) else if out y 10 90 then (2, 0, σ) else if ¬ σ.nf < 12 then (3, 0, σ) else (0, nI σ.nf, σ.wF (σ.nf + 1) (upF σ.F σ.nf (r6 x y 0 0 (-1) 0)))
def sp_scene (σ : NS) (x y z u v9 w9 : Int32) : Rs := if out x 0 100 ∨ out y 0 3 ∨ ¬ (0 < z ∧ z < (1 : Int32) <<< (nI σ.np &&& 31)) ∨ ¬ (5 ≤ u ∧ u ≤ 90) ∨ ¬ (v9 = -1 ∨ holdsP z v9) ∨ ¬ (w9 = -1 ∨ holdsP z w9) then (1, 0, σ) else if ¬ σ.ns < 10 then (2, 0, σ) else (0, nI σ.ns, σ.wS (σ.ns + 1) (upF σ.S σ.ns (r6 x y z u v9 w9)))
def sp_length (σ : NS) (x y : Int32) : Rs := if ¬ σ.isS x then (1, 0, σ) else if ¬ (5 ≤ y ∧ y ≤ 90) then (2, 0, σ) else if ¬ σ.mi < rB σ.S (iN x) + σ.S (iN x) 3 then (3, 0, σ) else (0, σ.S (iN x) 3, σ.wS σ.ns (upF σ.S (iN x) (upd (σ.S (iN x)) 3 y)))
def swS (σ : NS) (i j : Nat) : NS := σ.wS σ.ns (fun k => σ.S (sw i j k))
def sp_swap (σ : NS) (x y : Int32) : Rs := if ¬ σ.isS x ∨ ¬ σ.isS y then (1, 0, σ) else if ¬ σ.mi ≤ 0 then (2, 0, σ) else (0, rN (swS σ (iN x) (iN y)).S (cbS (swS σ (iN x) (iN y))) (kfS σ.P σ.np) σ.ns, swS σ (iN x) (iN y))
theorem nlt {a b : Nat} (h : nI a < nI b) (ha : a < 2 ^ 31) : a < b := Nat.lt_of_not_le (fun q => nI_nlt q ha h)

set_option maxHeartbeats 4000000 in
set_option maxRecDepth 100000 in
theorem k_X6_person {l : Launch} {s0 : State} {a0 : Array Value} {G : GG} (X : CX l s0 a0 G) {h : AH} {tg ke : Nat} {A : KA} {σ : NS} (htg : tg ≠ 0) (w : KelW G h tg ke A σ) (hiv : IV σ) (x y z u v9 w9 : Int32) (h6 : narrow .boolean (.int w9) = .int w9)  : ConX l s0 G yX6_person cX6_person 7 (some .int) 9 2 21 tg [.ref ke, .int x, .int y, .int z, .int u, .int v9, .int w9] h (PoN G tg ke (sp_person σ x y z u v9 w9)) (PoX h σ [eA, eS] (sp_person σ x y z u v9 w9)) := by
  refine ConX.of X (by decide +kernel) [some (.ref ke), some (.int x), some (.int y), some (.int z), some (.int u), some (.int v9), some (.int w9)] rfl (Nat.le_of_ble_eq_true rfl) (fun p e s m below meth c X hnm hret hE => ?_)
  have w0 := w
  obtain ⟨hke, hpw, hsw, hoc, hd1, hd2, hd3, hd4⟩ := w
  have hpl := hpw.1
  have hlp := hpw.2.1
  have hls := hpw.2.2.1
  have hP := hpw.2.2.2.1
  have hS := hpw.2.2.2.2.1
  have hn8 := hpw.2.2.2.2.2.1
  have hn10 := hpw.2.2.2.2.2.2.1
  have hsc := hsw.1
  have hlf := hsw.2.1
  have hF := hsw.2.2.1
  have hn12 := hsw.2.2.2.1
  refine aw_ild1 X dX6_person_0 rfl ?_
  refine aw_iconst X (0) dX6_person_1 (by decide) rfl ?_
  refine aw_iconst X (1) dX6_person_2 (by decide) rfl ?_
  refine aw_callS X dX6_person_3 rfl (k_X6_outside X.1 _ _ _) cmX6_outside ml_X6_52 rfl rfl (Nat.le_of_ble_eq_true rfl) ⟨Nat.le_of_ble_eq_true rfl, Nat.le_of_ble_eq_true rfl⟩ (aw_rs ?_)
  refine aw_if_ne (n2 := 53) X dX6_person_6 rfl rfl (fun c6 => ?_) (fun c6 => ?_)
  · exact aw_throw X th_eA (List.mem_of_getElem? (i := 17) rfl) hE dX6_person_53 dX6_person_56 (Or.inl ⟨dX6_person_57, dX6_person_59, dX6_person_62⟩) (by decide) (Nat.le_of_ble_eq_true rfl) (PoX.mk (by unfold sp_person; rw [if_pos (Or.inl (bI_y c6))]) rfl)
  · refine aw_ild2 X dX6_person_9 rfl ?_
    refine aw_iconst X (0) dX6_person_10 (by decide) rfl ?_
    refine aw_iconst X (3) dX6_person_11 (by decide) rfl ?_
    refine aw_callS X dX6_person_12 rfl (k_X6_outside X.1 _ _ _) cmX6_outside ml_X6_52 rfl rfl (Nat.le_of_ble_eq_true rfl) ⟨Nat.le_of_ble_eq_true rfl, Nat.le_of_ble_eq_true rfl⟩ (aw_rs ?_)
    refine aw_if_ne (n2 := 53) X dX6_person_15 rfl rfl (fun c15 => ?_) (fun c15 => ?_)
    · exact aw_throw X th_eA (List.mem_of_getElem? (i := 17) rfl) hE dX6_person_53 dX6_person_56 (Or.inl ⟨dX6_person_57, dX6_person_59, dX6_person_62⟩) (by decide) (Nat.le_of_ble_eq_true rfl) (PoX.mk (by unfold sp_person; rw [if_pos (Or.inr (Or.inl (bI_y c15)))]) rfl)
    · refine aw_ild3 X dX6_person_18 rfl ?_
      refine aw_iconst X (0) dX6_person_19 (by decide) rfl ?_
      refine aw_bipush X (9) dX6_person_20 (by decide) rfl ?_
      refine aw_callS X dX6_person_22 rfl (k_X6_outside X.1 _ _ _) cmX6_outside ml_X6_52 rfl rfl (Nat.le_of_ble_eq_true rfl) ⟨Nat.le_of_ble_eq_true rfl, Nat.le_of_ble_eq_true rfl⟩ (aw_rs ?_)
      refine aw_if_ne (n2 := 53) X dX6_person_25 rfl rfl (fun c25 => ?_) (fun c25 => ?_)
      · exact aw_throw X th_eA (List.mem_of_getElem? (i := 17) rfl) hE dX6_person_53 dX6_person_56 (Or.inl ⟨dX6_person_57, dX6_person_59, dX6_person_62⟩) (by decide) (Nat.le_of_ble_eq_true rfl) (PoX.mk (by unfold sp_person; rw [if_pos (Or.inr (Or.inr (Or.inl (bI_y c25))))]) rfl)
      · refine aw_ild4 X dX6_person_28 rfl ?_
        refine aw_iconst X (0) dX6_person_30 (by decide) rfl ?_
        refine aw_bipush X (99) dX6_person_31 (by decide) rfl ?_
        refine aw_callS X dX6_person_33 rfl (k_X6_outside X.1 _ _ _) cmX6_outside ml_X6_52 rfl rfl (Nat.le_of_ble_eq_true rfl) ⟨Nat.le_of_ble_eq_true rfl, Nat.le_of_ble_eq_true rfl⟩ (aw_rs ?_)
        refine aw_if_ne (n2 := 53) X dX6_person_36 rfl rfl (fun c36 => ?_) (fun c36 => ?_)
        · exact aw_throw X th_eA (List.mem_of_getElem? (i := 17) rfl) hE dX6_person_53 dX6_person_56 (Or.inl ⟨dX6_person_57, dX6_person_59, dX6_person_62⟩) (by decide) (Nat.le_of_ble_eq_true rfl) (PoX.mk (by unfold sp_person; rw [if_pos (Or.inr (Or.inr (Or.inr (Or.inl (bI_y c36)))))]) rfl)
        · refine aw_ild5 X dX6_person_39 rfl ?_
          refine aw_ild4 X dX6_person_41 rfl ?_
          refine aw_icmp_le (n2 := 53) X dX6_person_43 rfl rfl (fun c43 => ?_) (fun c43 => ?_)
          · exact aw_throw X th_eA (List.mem_of_getElem? (i := 17) rfl) hE dX6_person_53 dX6_person_56 (Or.inl ⟨dX6_person_57, dX6_person_59, dX6_person_62⟩) (by decide) (Nat.le_of_ble_eq_true rfl) (PoX.mk (by unfold sp_person; rw [if_pos (Or.inr (Or.inr (Or.inr (Or.inr (Or.inl c43)))))]) rfl)
          · refine aw_ild5 X dX6_person_46 rfl ?_
            refine aw_bipush X (100) dX6_person_48 (by decide) rfl ?_
            refine aw_icmp_le (n2 := 63) X dX6_person_50 rfl rfl (fun c50 => ?_) (fun c50 => ?_)
            · refine aw_ald0 X dX6_person_63 rfl ?_
              refine aw_get X fd_X6_10 dX6_person_64 rfl hke rfl ?_
              refine aw_get X fd_X6_63 dX6_person_67 rfl hpl rfl ?_
              refine aw_callV X dX6_person_70 rfl (k_size X.1 hlp) cmJx4a65c_size_8abf5 ml_X6_67 rfl hlp.1 rfl rfl (Nat.le_of_ble_eq_true rfl) ⟨Nat.le_of_ble_eq_true rfl, Nat.le_of_ble_eq_true rfl⟩ (aw_rs ?_)
              refine aw_bipush X (8) dX6_person_73 (by decide) rfl ?_
              refine aw_icmp_lt (n2 := 88) X dX6_person_75 rfl rfl (fun c75 => ?_) (fun c75 => ?_)
              · have hn : σ.np < 8 := nlt (b := 8) c75 (by omega)
                refine aw_ald0 X dX6_person_88 rfl ?_
                refine aw_get X fd_X6_10 dX6_person_89 rfl hke rfl ?_
                refine aw_new X nw_X6_78 dX6_person_92 rfl (fun q92 hq92 => ?_)
                refine aw_dup X dX6_person_95 rfl rfl ?_
                refine aw_ild1 X dX6_person_96 rfl ?_
                refine aw_ild2 X dX6_person_97 rfl ?_
                refine aw_ild3 X dX6_person_98 rfl ?_
                refine aw_ild4 X dX6_person_99 rfl ?_
                refine aw_ild5 X dX6_person_101 rfl ?_
                refine aw_ild6 X dX6_person_103 rfl ?_
                refine aw_callI X dX6_person_105 rfl (k_X2_init X.1 htg x y z u v9 w9 h6 hu_s) cmX2_init ml_X6_80 rfl rfl (Nat.le_of_ble_eq_true rfl) ⟨Nat.le_of_ble_eq_true rfl, Nat.le_of_ble_eq_true rfl⟩ (aw_rv ?_)
                rw [hu_hu]
                have wq := w0.new (c := (tg, oPer (r6 x y z u v9 w9))) hq92
                change AW p l e _ s m _ below meth c _ s0 G 7 tg _ (hu h q92 (tg, oPer (r6 x y z u v9 w9))) _ _ _ _ _
                refine aw_callV X dX6_person_108 rfl (k_X3_tell X.1 htg wq.2.1 hn hu_s) cmX3_tell ml_X6_83 rfl wq.2.1.1 rfl rfl (Nat.le_of_ble_eq_true rfl) ⟨Nat.le_of_ble_eq_true rfl, Nat.le_of_ble_eq_true rfl⟩ (fun r h2 hq hf => ?_)
                obtain ⟨rfl, edp2, capp2, mdp2, gp2, pa2, hw2, hed, hc2, hfr⟩ := hq
                exact aw_vx (aw_iret X hret rfl dX6_person_111 (PoN.mk (σ2 := σ.wP (σ.np + 1) (upF σ.P σ.np (r6 x y z u v9 w9))) (by unfold sp_person; rw [if_neg (fun q => q.elim (bI_n c6) (fun q => q.elim (bI_n c15) (fun q => q.elim (bI_n c25) (fun q => q.elim (bI_n c36) (fun q => q.elim c43 (fun z => z c50)))))), if_neg (fun q => q hn)]) (wq.plotP (by
    rw [kfS_add]
    refine PlF.cb hw2 (fun k hk => ?_)
    have hc := hiv.2.2.1 k hk
    refine (bcS_add (cast_lt hn8 hc.1.1 hc.1.2 (Nat.le_refl _) (by omega)) (fun e => ?_) σ.np 0 0 rfl).symm
    rcases hc.2.1 with e2 | e2
    · rw [e2] at e
      exact absurd e (by
        have : ∀ n, n < 9 → ¬ nI n = -1 := by decide +kernel
        exact this _ (by omega))
    · rw [← e] at e2
      exact cast_lt hn8 hc.1.1 hc.1.2 (Nat.le_refl _) (by omega) e2) (fun k hk => by
    have ho := (hiv.2.2.2.1 k hk).1
    have hi := nI_iN ho.1 ho.2 (by omega)
    exact congrArg (fun (r : Nat → Int32) => r 0) (show σ.P (iN (σ.F k 0)) = upF σ.P σ.np (r6 x y z u v9 w9) (iN (σ.F k 0)) from (if_neg (Nat.ne_of_lt hi.2)).symm)) (hed.imp (fun q => ⟨q.1, fun _ => q.2⟩) id) hfr)))
              · exact aw_throw X th_eS (List.mem_of_getElem? (i := 18) rfl) hE dX6_person_78 dX6_person_81 (Or.inl ⟨dX6_person_82, dX6_person_84, dX6_person_87⟩) (by decide) (Nat.le_of_ble_eq_true rfl) (PoX.mk (by unfold sp_person; rw [if_neg (fun q => q.elim (bI_n c6) (fun q => q.elim (bI_n c15) (fun q => q.elim (bI_n c25) (fun q => q.elim (bI_n c36) (fun q => q.elim c43 (fun z => z c50)))))), if_pos (fun q => c75 (nI_lt q (by decide)))]) rfl)
            · exact aw_throw X th_eA (List.mem_of_getElem? (i := 17) rfl) hE dX6_person_53 dX6_person_56 (Or.inl ⟨dX6_person_57, dX6_person_59, dX6_person_62⟩) (by decide) (Nat.le_of_ble_eq_true rfl) (PoX.mk (by unfold sp_person; rw [if_pos (Or.inr (Or.inr (Or.inr (Or.inr (Or.inr c50)))))]) rfl)

set_option maxHeartbeats 4000000 in
set_option maxRecDepth 100000 in
theorem k_X6_figure {l : Launch} {s0 : State} {a0 : Array Value} {G : GG} (X : CX l s0 a0 G) {h : AH} {tg ke : Nat} {A : KA} {σ : NS} (htg : tg ≠ 0) (w : KelW G h tg ke A σ) (x y : Int32)  : ConX l s0 G yX6_figure cX6_figure 3 (some .int) 9 2 22 tg [.ref ke, .int x, .int y] h (PoN G tg ke (sp_figure σ x y)) (PoX h σ [eI, eA, eS] (sp_figure σ x y)) := by
  refine ConX.of X (by decide +kernel) [some (.ref ke), some (.int x), some (.int y)] rfl (Nat.le_of_ble_eq_true rfl) (fun p e s m below meth c X hnm hret hE => ?_)
  have w0 := w
  obtain ⟨hke, hpw, hsw, hoc, hd1, hd2, hd3, hd4⟩ := w
  have hpl := hpw.1
  have hlp := hpw.2.1
  have hls := hpw.2.2.1
  have hP := hpw.2.2.2.1
  have hS := hpw.2.2.2.2.1
  have hn8 := hpw.2.2.2.2.2.1
  have hn10 := hpw.2.2.2.2.2.2.1
  have hsc := hsw.1
  have hlf := hsw.2.1
  have hF := hsw.2.2.1
  have hn12 := hsw.2.2.2.1
  refine aw_ald0 X dX6_figure_0 rfl ?_
  refine aw_ild1 X dX6_figure_1 rfl ?_
  refine aw_callV X dX6_figure_2 rfl (k_X6_isPerson X.1 w0 _) cmX6_isPerson ml_X6_87 rfl hke rfl rfl (Nat.le_of_ble_eq_true rfl) ⟨Nat.le_of_ble_eq_true rfl, Nat.le_of_ble_eq_true rfl⟩ (aw_rs ?_)
  refine aw_if_ne (n2 := 18) X dX6_figure_5 rfl rfl (fun c5 => ?_) (fun c5 => ?_)
  · refine aw_ild2 X dX6_figure_18 rfl ?_
    refine aw_bipush X (10) dX6_figure_19 (by decide) rfl ?_
    refine aw_bipush X (90) dX6_figure_21 (by decide) rfl ?_
    refine aw_callS X dX6_figure_23 rfl (k_X6_outside X.1 _ _ _) cmX6_outside ml_X6_52 rfl rfl (Nat.le_of_ble_eq_true rfl) ⟨Nat.le_of_ble_eq_true rfl, Nat.le_of_ble_eq_true rfl⟩ (aw_rs ?_)
    refine aw_if_eq (n2 := 39) X dX6_figure_26 rfl rfl (fun c26 => ?_) (fun c26 => ?_)
    · refine aw_ald0 X dX6_figure_39 rfl ?_
      refine aw_get X fd_X6_19 dX6_figure_40 rfl hke rfl ?_
      refine aw_get X fd_X6_98 dX6_figure_43 rfl hsc rfl ?_
      refine aw_callV X dX6_figure_46 rfl (k_size X.1 hlf) cmJx4a65c_size_8abf5 ml_X6_67 rfl hlf.1 rfl rfl (Nat.le_of_ble_eq_true rfl) ⟨Nat.le_of_ble_eq_true rfl, Nat.le_of_ble_eq_true rfl⟩ (aw_rs ?_)
      refine aw_bipush X (12) dX6_figure_49 (by decide) rfl ?_
      refine aw_icmp_lt (n2 := 64) X dX6_figure_51 rfl rfl (fun c51 => ?_) (fun c51 => ?_)
      · have hn : σ.nf < 12 := nlt (b := 12) c51 (by omega)
        obtain ⟨hxk, hkf⟩ := cat_in (bI_y c5) (show σ.np < 2 ^ 31 by omega)
        refine aw_ald0 X dX6_figure_64 rfl ?_
        refine aw_get X fd_X6_19 dX6_figure_65 rfl hke rfl ?_
        refine aw_get X fd_X6_98 dX6_figure_68 rfl hsc rfl ?_
        refine aw_new X nw_X6_103 dX6_figure_71 rfl (fun q71 hq71 => ?_)
        refine aw_dup X dX6_figure_74 rfl rfl ?_
        refine aw_ild1 X dX6_figure_75 rfl ?_
        refine aw_ald0 X dX6_figure_76 rfl ?_
        refine aw_get X fd_X6_10 dX6_figure_77 rfl (hu_k hq71 hke) rfl ?_
        refine aw_get X fd_X6_63 dX6_figure_80 rfl (hu_k hq71 hpl) rfl ?_
        refine aw_ild1 X dX6_figure_83 rfl ?_
        refine aw_callV X dX6_figure_84 rfl (k_lget X.1 (w0.new (c := (tg, .inr (2, [.int 0, .int 0, .int 0, .int 0, .int 0, .int 0, .int 0]))) hq71).2.1.2.1 hxk hkf (hP _ hkf).1) cmJx4a65c_get_915e3 ml_X6_105 rfl (hu_k hq71 hlp.1) rfl rfl (Nat.le_of_ble_eq_true rfl) ⟨Nat.le_of_ble_eq_true rfl, Nat.le_of_ble_eq_true rfl⟩ (aw_rs ?_)
        refine aw_cast X dX6_figure_87 rfl rfl cc_X6_78 (hu_k hq71 (hP _ hkf).2) ?_
        refine aw_get X fd_X6_109 dX6_figure_90 rfl (hu_k hq71 (hP _ hkf).2) rfl ?_
        refine aw_ild2 X dX6_figure_93 rfl ?_
        refine aw_callI X dX6_figure_94 rfl (k_X0_init X.1 htg x (σ.P (iN x) 0) y hu_s) cmX0_init ml_X6_112 rfl rfl (Nat.le_of_ble_eq_true rfl) ⟨Nat.le_of_ble_eq_true rfl, Nat.le_of_ble_eq_true rfl⟩ (aw_rv ?_)
        rw [hu_hu]
        have wq := w0.new (c := (tg, cFig (σ.P (iN x) 0) (r6 x y 0 0 (-1) 0))) hq71
        change AW p l e _ s m _ below meth c _ s0 G 3 tg _ (hu h q71 (tg, cFig (σ.P (iN x) 0) (r6 x y 0 0 (-1) 0))) _ _ _ _ _
        have hqL : q71 ≠ A.Lf := fun e => by rw [e, hlf.1] at hq71; cases hq71
        have hqE : q71 ≠ A.edf := fun e => by
          obtain ⟨t9, e9⟩ := hlf.arr
          rw [e, e9] at hq71; cases hq71
        refine aw_callV X dX6_figure_97 rfl (k_ladd X.1 htg wq.2.2.1.2.1 (by omega) (fun j hj => ⟨A.fa j, tg, _, (hF j hj).1, hu_k hq71 (hF j hj).2, ob_X0⟩) hu_s ob_X0 hqL) cmJx4a65c_add_9ea2d ml_X6_115 rfl wq.2.2.1.2.1.1 rfl rfl (Nat.le_of_ble_eq_true rfl) ⟨Nat.le_of_ble_eq_true rfl, Nat.le_of_ble_eq_true rfl⟩ (fun r h2 hq hf => ?_)
        obtain ⟨rfl, ed2, cap2, g2, md2, hl2, hc2, hg2, hgn, hed, hfr⟩ := hq
        have hed' : (ed2 = A.edf ∧ A.capf ≠ 0) ∨ h ed2 = none := hed.imp id (fun e => by
          by_cases z : ed2 = q71
          · rw [z, hu_s] at e; cases e
          · rwa [hu_n z] at e)
        have w2 := w0.figAdd (r := r6 x y 0 0 (-1) 0) hq71 hl2 hc2 hg2 hgn hed' (fun a c e => hfr a c (hu_k hq71 e)) (hfr _ _ hu_s hqL (Or.inl hqE)) hn
        refine aw_pop X dX6_figure_100 rfl rfl ?_
        refine aw_ald0 X dX6_figure_101 rfl ?_
        refine aw_get X fd_X6_19 dX6_figure_102 rfl w2.1 rfl ?_
        refine aw_get X fd_X6_98 dX6_figure_105 rfl w2.2.2.1.1 rfl ?_
        refine aw_callV X dX6_figure_108 rfl (k_size X.1 w2.2.2.1.2.1) cmJx4a65c_size_8abf5 ml_X6_67 rfl w2.2.2.1.2.1.1 rfl rfl (Nat.le_of_ble_eq_true rfl) ⟨Nat.le_of_ble_eq_true rfl, Nat.le_of_ble_eq_true rfl⟩ (aw_rs ?_)
        refine aw_iconst X (1) dX6_figure_111 (by decide) rfl ?_
        refine aw_isub X dX6_figure_112 rfl ?_
        exact aw_vx (aw_iret X hret rfl dX6_figure_113 (PoN.mk (σ2 := σ.wF (σ.nf + 1) (upF σ.F σ.nf (r6 x y 0 0 (-1) 0))) (by unfold sp_figure; rw [if_neg (fun q => q (bI_y c5)), if_neg (bI_n c26), if_neg (fun q => q hn)]; show _ = (0, nI (σ.nf + 1) - 1, _); rw [← nI_1, Int32.add_sub_cancel]) w2))
      · exact aw_throw X th_eS (List.mem_of_getElem? (i := 20) rfl) hE dX6_figure_54 dX6_figure_57 (Or.inl ⟨dX6_figure_58, dX6_figure_60, dX6_figure_63⟩) (by decide) (Nat.le_of_ble_eq_true rfl) (PoX.mk (by unfold sp_figure; rw [if_neg (fun q => q (bI_y c5)), if_neg (bI_n c26), if_pos (fun q => c51 (nI_lt q (by decide)))]) rfl)
    · exact aw_throw X th_eA (List.mem_of_getElem? (i := 19) rfl) hE dX6_figure_29 dX6_figure_32 (Or.inl ⟨dX6_figure_33, dX6_figure_35, dX6_figure_38⟩) (by decide) (Nat.le_of_ble_eq_true rfl) (PoX.mk (by unfold sp_figure; rw [if_neg (fun q => q (bI_y c5)), if_pos (bI_y c26)]) rfl)
  · exact aw_throw X th_eI (List.mem_of_getElem? (i := 5) rfl) hE dX6_figure_8 dX6_figure_11 (Or.inl ⟨dX6_figure_12, dX6_figure_14, dX6_figure_17⟩) (by decide) (Nat.le_of_ble_eq_true rfl) (PoX.mk (by unfold sp_figure; rw [if_pos (bI_n c5)]) rfl)

set_option maxHeartbeats 4000000 in
set_option maxRecDepth 100000 in
theorem k_X6_scene {l : Launch} {s0 : State} {a0 : Array Value} {G : GG} (X : CX l s0 a0 G) {h : AH} {tg ke : Nat} {A : KA} {σ : NS} (htg : tg ≠ 0) (w : KelW G h tg ke A σ) (x y z u v9 w9 : Int32)  : ConX l s0 G yX6_scene cX6_scene 7 (some .int) 9 2 25 tg [.ref ke, .int x, .int y, .int z, .int u, .int v9, .int w9] h (PoN G tg ke (sp_scene σ x y z u v9 w9)) (PoX h σ [eA, eS] (sp_scene σ x y z u v9 w9)) := by
  refine ConX.of X (by decide +kernel) [some (.ref ke), some (.int x), some (.int y), some (.int z), some (.int u), some (.int v9), some (.int w9)] rfl (Nat.le_of_ble_eq_true rfl) (fun p e s m below meth c X hnm hret hE => ?_)
  have w0 := w
  obtain ⟨hke, hpw, hsw, hoc, hd1, hd2, hd3, hd4⟩ := w
  have hpl := hpw.1
  have hlp := hpw.2.1
  have hls := hpw.2.2.1
  have hP := hpw.2.2.2.1
  have hS := hpw.2.2.2.2.1
  have hn8 := hpw.2.2.2.2.2.1
  have hn10 := hpw.2.2.2.2.2.2.1
  have hsc := hsw.1
  have hlf := hsw.2.1
  have hF := hsw.2.2.1
  have hn12 := hsw.2.2.2.1
  refine aw_ild1 X dX6_scene_0 rfl ?_
  refine aw_iconst X (0) dX6_scene_1 (by decide) rfl ?_
  refine aw_bipush X (100) dX6_scene_2 (by decide) rfl ?_
  refine aw_callS X dX6_scene_4 rfl (k_X6_outside X.1 _ _ _) cmX6_outside ml_X6_52 rfl rfl (Nat.le_of_ble_eq_true rfl) ⟨Nat.le_of_ble_eq_true rfl, Nat.le_of_ble_eq_true rfl⟩ (aw_rs ?_)
  refine aw_if_ne (n2 := 56) X dX6_scene_7 rfl rfl (fun c7 => ?_) (fun c7 => ?_)
  · exact aw_throw X th_eA (List.mem_of_getElem? (i := 21) rfl) hE dX6_scene_56 dX6_scene_59 (Or.inl ⟨dX6_scene_60, dX6_scene_62, dX6_scene_65⟩) (by decide) (Nat.le_of_ble_eq_true rfl) (PoX.mk (by unfold sp_scene; rw [if_pos (Or.inl (bI_y c7))]) rfl)
  · refine aw_ild2 X dX6_scene_10 rfl ?_
    refine aw_iconst X (0) dX6_scene_11 (by decide) rfl ?_
    refine aw_iconst X (3) dX6_scene_12 (by decide) rfl ?_
    refine aw_callS X dX6_scene_13 rfl (k_X6_outside X.1 _ _ _) cmX6_outside ml_X6_52 rfl rfl (Nat.le_of_ble_eq_true rfl) ⟨Nat.le_of_ble_eq_true rfl, Nat.le_of_ble_eq_true rfl⟩ (aw_rs ?_)
    refine aw_if_ne (n2 := 56) X dX6_scene_16 rfl rfl (fun c16 => ?_) (fun c16 => ?_)
    · exact aw_throw X th_eA (List.mem_of_getElem? (i := 21) rfl) hE dX6_scene_56 dX6_scene_59 (Or.inl ⟨dX6_scene_60, dX6_scene_62, dX6_scene_65⟩) (by decide) (Nat.le_of_ble_eq_true rfl) (PoX.mk (by unfold sp_scene; rw [if_pos (Or.inr (Or.inl (bI_y c16)))]) rfl)
    · refine aw_ald0 X dX6_scene_19 rfl ?_
      refine aw_get X fd_X6_10 dX6_scene_20 rfl hke rfl ?_
      refine aw_ild3 X dX6_scene_23 rfl ?_
      refine aw_callV X dX6_scene_24 rfl (k_X3_isCast X.1 hpw z) cmX3_isCast ml_X6_119 rfl hpl rfl rfl (Nat.le_of_ble_eq_true rfl) ⟨Nat.le_of_ble_eq_true rfl, Nat.le_of_ble_eq_true rfl⟩ (aw_rs ?_)
      refine aw_if_eq (n2 := 56) X dX6_scene_27 rfl rfl (fun c27 => ?_) (fun c27 => ?_)
      · exact aw_throw X th_eA (List.mem_of_getElem? (i := 21) rfl) hE dX6_scene_56 dX6_scene_59 (Or.inl ⟨dX6_scene_60, dX6_scene_62, dX6_scene_65⟩) (by decide) (Nat.le_of_ble_eq_true rfl) (PoX.mk (by unfold sp_scene; rw [if_pos (Or.inr (Or.inr (Or.inl (bI_n c27))))]) rfl)
      · refine aw_ild4 X dX6_scene_30 rfl ?_
        refine aw_callS X dX6_scene_32 rfl (k_X6_isLength X.1 _) cmX6_isLength ml_X6_122 rfl rfl (Nat.le_of_ble_eq_true rfl) ⟨Nat.le_of_ble_eq_true rfl, Nat.le_of_ble_eq_true rfl⟩ (aw_rs ?_)
        refine aw_if_eq (n2 := 56) X dX6_scene_35 rfl rfl (fun c35 => ?_) (fun c35 => ?_)
        · exact aw_throw X th_eA (List.mem_of_getElem? (i := 21) rfl) hE dX6_scene_56 dX6_scene_59 (Or.inl ⟨dX6_scene_60, dX6_scene_62, dX6_scene_65⟩) (by decide) (Nat.le_of_ble_eq_true rfl) (PoX.mk (by unfold sp_scene; rw [if_pos (Or.inr (Or.inr (Or.inr (Or.inl (bI_n c35)))))]) rfl)
        · refine aw_ild3 X dX6_scene_38 rfl ?_
          refine aw_ild5 X dX6_scene_39 rfl ?_
          refine aw_callS X dX6_scene_41 rfl (k_X6_isNoneOrOf X.1 _ _) cmX6_isNoneOrOf ml_X6_125 rfl rfl (Nat.le_of_ble_eq_true rfl) ⟨Nat.le_of_ble_eq_true rfl, Nat.le_of_ble_eq_true rfl⟩ (aw_rs ?_)
          refine aw_if_eq (n2 := 56) X dX6_scene_44 rfl rfl (fun c44 => ?_) (fun c44 => ?_)
          · exact aw_throw X th_eA (List.mem_of_getElem? (i := 21) rfl) hE dX6_scene_56 dX6_scene_59 (Or.inl ⟨dX6_scene_60, dX6_scene_62, dX6_scene_65⟩) (by decide) (Nat.le_of_ble_eq_true rfl) (PoX.mk (by unfold sp_scene; rw [if_pos (Or.inr (Or.inr (Or.inr (Or.inr (Or.inl (bI_n c44))))))]) rfl)
          · refine aw_ild3 X dX6_scene_47 rfl ?_
            refine aw_ild6 X dX6_scene_48 rfl ?_
            refine aw_callS X dX6_scene_50 rfl (k_X6_isNoneOrOf X.1 _ _) cmX6_isNoneOrOf ml_X6_125 rfl rfl (Nat.le_of_ble_eq_true rfl) ⟨Nat.le_of_ble_eq_true rfl, Nat.le_of_ble_eq_true rfl⟩ (aw_rs ?_)
            refine aw_if_ne (n2 := 66) X dX6_scene_53 rfl rfl (fun c53 => ?_) (fun c53 => ?_)
            · refine aw_ald0 X dX6_scene_66 rfl ?_
              refine aw_get X fd_X6_10 dX6_scene_67 rfl hke rfl ?_
              refine aw_get X fd_X6_131 dX6_scene_70 rfl hpl rfl ?_
              refine aw_callV X dX6_scene_73 rfl (k_size X.1 hls) cmJx4a65c_size_8abf5 ml_X6_67 rfl hls.1 rfl rfl (Nat.le_of_ble_eq_true rfl) ⟨Nat.le_of_ble_eq_true rfl, Nat.le_of_ble_eq_true rfl⟩ (aw_rs ?_)
              refine aw_bipush X (10) dX6_scene_76 (by decide) rfl ?_
              refine aw_icmp_lt (n2 := 91) X dX6_scene_78 rfl rfl (fun c78 => ?_) (fun c78 => ?_)
              · have hn : σ.ns < 10 := nlt (b := 10) c78 (by omega)
                refine aw_ald0 X dX6_scene_91 rfl ?_
                refine aw_get X fd_X6_10 dX6_scene_92 rfl hke rfl ?_
                refine aw_ild1 X dX6_scene_95 rfl ?_
                refine aw_ild2 X dX6_scene_96 rfl ?_
                refine aw_ild3 X dX6_scene_97 rfl ?_
                refine aw_ild4 X dX6_scene_98 rfl ?_
                refine aw_ild5 X dX6_scene_100 rfl ?_
                refine aw_ild6 X dX6_scene_102 rfl ?_
                refine aw_callV X dX6_scene_104 rfl (k_X3_append X.1 htg hpw hn x y z u v9 w9) cmX3_append ml_X6_136 rfl hpl rfl rfl (Nat.le_of_ble_eq_true rfl) ⟨Nat.le_of_ble_eq_true rfl, Nat.le_of_ble_eq_true rfl⟩ (fun r h2 hq hf => ?_)
                obtain ⟨rfl, gs2, sa2, eds2, caps2, mds2, hw2, hed, hc2, hfr⟩ := hq
                exact aw_vx (aw_iret X hret rfl dX6_scene_107 (PoN.mk (σ2 := σ.wS (σ.ns + 1) (upF σ.S σ.ns (r6 x y z u v9 w9))) (by unfold sp_scene; rw [if_neg (fun q => q.elim (bI_n c7) (fun q => q.elim (bI_n c16) (fun q => q.elim (fun z9 => z9 (bI_y c27)) (fun q => q.elim (fun z9 => z9 (bI_y c35)) (fun q => q.elim (fun z9 => z9 (bI_y c44)) (fun z9 => z9 (bI_y c53))))))), if_neg (fun q => q hn)]) (w0.plotS (by
    rw [show cbS (σ.wS (σ.ns + 1) (upF σ.S σ.ns (r6 x y z u v9 w9))) = (fun i => if i = σ.ns then bcS σ.P x z v9 σ.np 0 0 else cbS σ i) from funext fun i => by
      show bcS σ.P (upF σ.S σ.ns (r6 x y z u v9 w9) i 0) (upF σ.S σ.ns (r6 x y z u v9 w9) i 2) (upF σ.S σ.ns (r6 x y z u v9 w9) i 4) σ.np 0 0 = _
      by_cases q : i = σ.ns
      · rw [if_pos q, show upF σ.S σ.ns (r6 x y z u v9 w9) i = r6 x y z u v9 w9 from if_pos q]; rfl
      · rw [if_neg q, show upF σ.S σ.ns (r6 x y z u v9 w9) i = σ.S i from if_neg q]; rfl]
    exact hw2) (hed.imp (fun q => ⟨q.1, fun _ => q.2⟩) id) hfr)))
              · exact aw_throw X th_eS (List.mem_of_getElem? (i := 22) rfl) hE dX6_scene_81 dX6_scene_84 (Or.inl ⟨dX6_scene_85, dX6_scene_87, dX6_scene_90⟩) (by decide) (Nat.le_of_ble_eq_true rfl) (PoX.mk (by unfold sp_scene; rw [if_neg (fun q => q.elim (bI_n c7) (fun q => q.elim (bI_n c16) (fun q => q.elim (fun z9 => z9 (bI_y c27)) (fun q => q.elim (fun z9 => z9 (bI_y c35)) (fun q => q.elim (fun z9 => z9 (bI_y c44)) (fun z9 => z9 (bI_y c53))))))), if_pos (fun q => c78 (nI_lt q (by decide)))]) rfl)
            · exact aw_throw X th_eA (List.mem_of_getElem? (i := 21) rfl) hE dX6_scene_56 dX6_scene_59 (Or.inl ⟨dX6_scene_60, dX6_scene_62, dX6_scene_65⟩) (by decide) (Nat.le_of_ble_eq_true rfl) (PoX.mk (by unfold sp_scene; rw [if_pos (Or.inr (Or.inr (Or.inr (Or.inr (Or.inr (bI_n c53))))))]) rfl)
