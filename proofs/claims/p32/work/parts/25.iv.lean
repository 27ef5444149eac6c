theorem gripS_no {sd : Int32} {r : Nat → Int32} {F : Nat → Nat → Int32} {n : Nat} (h0 : ¬ r 3 = 0) (h1 : ¬ r 3 = 1) : gripS sd r F n = -1 := by
  unfold gripS
  rw [if_neg h0, if_neg h1]
theorem gripS_b0 {sd : Int32} {r : Nat → Int32} {F : Nat → Nat → Int32} {n : Nat} (h0 : r 3 = 0) (hs : sd = 0) : gripS sd r F n = if freeP F n 2 ∧ figAt F n 0 = -1 then 2 else -1 := by
  subst hs
  unfold gripS
  rw [if_pos h0]
  rfl
theorem gripS_b1 {sd : Int32} {r : Nat → Int32} {F : Nat → Nat → Int32} {n : Nat} (h0 : r 3 = 0) (hs : sd = 1) : gripS sd r F n = if freeP F n 3 ∧ figAt F n 9 = -1 then 3 else -1 := by
  subst hs
  unfold gripS
  rw [if_pos h0]
  rfl
theorem gripS_pl {sd : Int32} {r : Nat → Int32} {F : Nat → Nat → Int32} {n : Nat} (h1 : r 3 = 1) : gripS sd r F n = if reachP 2 (r 4) ∧ freeP F n 2 then 2 else if reachP 3 (r 4) ∧ freeP F n 3 then 3 else -1 := by
  unfold gripS
  rw [if_neg (by rw [h1]; decide), if_pos h1]
theorem upd_id {r : Nat → Int32} {k : Nat} {x : Int32} (h : r k = x) : upd r k x = r := funext fun i => by
  by_cases q : i = k
  · rw [q, pk_us, h]
  · rw [pk_un q]
theorem IV.low {σ : NS} (hv : IV σ) {k : Nat} (hk : k < σ.nf) (g : ¬ gripS (sdS σ k) (σ.F k) σ.F σ.nf = -1) : σ.F k 5 = 0 := by
  have h9 := (hv.2.2.2.1 k hk).2.2.2
  rcases h9 with h9 | h9 | h9
  · exact h9.2.2
  · exact h9.2.2
  · refine absurd (gripS_no (fun q => ?_) (fun q => ?_)) g
    · rcases h9.1 with e | e <;> (rw [e] at q; exact absurd q (by decide))
    · rcases h9.1 with e | e <;> (rw [e] at q; exact absurd q (by decide))
theorem IV.fig {σ : NS} (hv : IV σ) {k : Nat} (hk : k < σ.nf) : (2 ≤ σ.F k 3) ↔ (σ.F k 3 = 2 ∨ σ.F k 3 = 3) := by
  have h := (hv.2.2.2.1 k hk).2.2.2
  rcases h with h | h | h
  · rw [h.1]; decide
  · rw [h.1]; decide
  · rcases h.1 with e | e <;> rw [e] <;> decide
/-! WHAT ALWAYS HOLDS: every call keeps it -/
theorem i_le {x : Int32} {n : Nat} (h0 : 0 ≤ x) (h1 : x ≤ nI n) (hn : n < 1000) : ∃ k, k ≤ n ∧ x = nI k := by
  have h := nI_iN (n := n + 1) h0 (Int32.lt_of_le_of_lt h1 (nI_lt (Nat.lt_succ_self n) (by omega))) (by omega)
  exact ⟨iN x, by omega, h.1⟩
theorem i_in {k n : Nat} (h : k ≤ n) (hn : n < 1000) : 0 ≤ nI k ∧ nI k ≤ nI n := ⟨nI_0le k (by omega), nI_le h (by omega)⟩
theorem nout {v a b : Int32} (h : ¬ out v a b) : a ≤ v ∧ v ≤ b := ⟨Int32.not_lt.mp (fun q => h (Or.inl q)), Int32.not_lt.mp (fun q => h (Or.inr q))⟩
abbrev FRw (np : Nat) (r : Nat → Int32) : Prop := (0 ≤ r 0 ∧ r 0 < nI np) ∧ (10 ≤ r 1 ∧ r 1 ≤ 90) ∧ (0 ≤ r 2 ∧ r 2 ≤ 100) ∧ ((r 3 = 0 ∧ r 4 = -1 ∧ r 5 = 0) ∨ (r 3 = 1 ∧ (0 ≤ r 4 ∧ r 4 ≤ 9) ∧ r 5 = 0) ∨ ((r 3 = 2 ∨ r 3 = 3) ∧ (0 ≤ r 4 ∧ r 4 ≤ 9) ∧ 0 ≤ r 5 ∧ r 5 ≤ 15))
/-- an orchestra -/
abbrev OI (r : Nat → Int32) : Prop := (r 0 = -1 ∧ r 1 = 0 ∧ r 2 = 0 ∧ r 3 = 0) ∨ ((0 ≤ r 0 ∧ r 0 ≤ 3) ∧ (1 ≤ r 1 ∧ r 1 ≤ 3) ∧ (0 ≤ r 2 ∧ r 2 < cyc (r 0)) ∧ (0 ≤ r 3 ∧ r 3 ≤ 3))
theorem IV.FR {σ : NS} (hv : IV σ) {k : Nat} (hk : k < σ.nf) : FRw σ.np (σ.F k) := hv.2.2.2.1 k hk
theorem IV.oi {σ : NS} (hv : IV σ) : OI σ.o := hv.2.2.2.2.2.2.1
theorem IV.figW {σ : NS} (hv : IV σ) {n : Nat} {F : Nat → Nat → Int32} (hn : n ≤ 12) (h : ∀ k, k < n → FRw σ.np (F k)) : IV (σ.wF n F) := ⟨⟨hv.1.1, hv.1.2.1, hn⟩, hv.2.1, hv.2.2.1, h, hv.2.2.2.2⟩
theorem IV.figU {σ : NS} (hv : IV σ) {k : Nat} {r : Nat → Int32} (h : FRw σ.np r) : IV (σ.fig k r) := hv.figW hv.1.2.2 (fun i hi => by
  unfold upF
  split
  · exact h
  · exact hv.FR hi)
theorem IV.oW {σ : NS} (hv : IV σ) {r : Nat → Int32} (h : OI r) : IV (σ.wO r) := ⟨hv.1, hv.2.1, hv.2.2.1, hv.2.2.2.1, hv.2.2.2.2.1, hv.2.2.2.2.2.1, h, hv.2.2.2.2.2.2.2⟩
theorem IV.vW {σ : NS} (hv : IV σ) {v : Nat → Int32} (h8 : 0 ≤ v 0 ∧ v 0 ≤ 540) (h9 : 0 ≤ v 1 ∧ v 1 ≤ 100) (h10 : 0 ≤ v 2 ∧ v 2 ≤ 9) (h11 : 0 ≤ v 3 ∧ v 3 ≤ 30) : IV (σ.wV v) := ⟨hv.1, hv.2.1, hv.2.2.1, hv.2.2.2.1, hv.2.2.2.2.1, hv.2.2.2.2.2.1, hv.2.2.2.2.2.2.1, h8, h9, h10, h11⟩
theorem IV.miB {σ : NS} (hv : IV σ) : 0 ≤ σ.mi ∧ σ.mi ≤ 540 := hv.2.2.2.2.2.2.2.1
theorem IV.tiB {σ : NS} (hv : IV σ) : 0 ≤ σ.ti ∧ σ.ti ≤ 100 := hv.2.2.2.2.2.2.2.2.1
theorem IV.lpB {σ : NS} (hv : IV σ) : 0 ≤ σ.lp ∧ σ.lp ≤ 9 := hv.2.2.2.2.2.2.2.2.2.1
theorem IV.beB {σ : NS} (hv : IV σ) : 0 ≤ σ.be ∧ σ.be ≤ 30 := hv.2.2.2.2.2.2.2.2.2.2
theorem wear_in {a x : Int32} (ha : 0 ≤ a ∧ a ≤ 100) (h0 : 0 ≤ x) (h1 : x ≤ 100) : 0 ≤ (if a + x < 100 then a + x else 100) ∧ (if a + x < 100 then a + x else 100) ≤ 100 := by
  obtain ⟨p, hp, e1⟩ := i_le (n := 100) ha.1 ha.2 (by decide)
  obtain ⟨q, hq, e2⟩ := i_le (n := 100) h0 h1 (by decide)
  split
  · rename_i c
    exact ⟨by rw [e1, e2, nI_add]; exact nI_0le _ (by omega), Int32.le_of_lt c⟩
  · decide
theorem FR_wear {np : Nat} {r : Nat → Int32} (h : FRw np r) {x : Int32} (h0 : 0 ≤ x) (h1 : x ≤ 100) : FRw np (wearR r x) := ⟨h.1, h.2.1, wear_in h.2.2.1 h0 h1, h.2.2.2⟩
theorem cyc_nI (x : Int32) : ∃ C : Nat, 0 < C ∧ C ≤ 32 ∧ cyc x = nI C := by
  unfold cyc
  repeat' split
  · exact ⟨8, by decide, by decide, rfl⟩
  · exact ⟨16, by decide, by decide, rfl⟩
  · exact ⟨12, by decide, by decide, rfl⟩
  · exact ⟨32, by decide, by decide, rfl⟩
/-- a beat that can be: before the gong -/
theorem oi_beat {r : Nat → Int32} (h : OI r) (n : ¬ r 0 = -1) : ∃ b C : Nat, b < C ∧ C ≤ 32 ∧ r 2 = nI b ∧ cyc (r 0) = nI C := by
  obtain ⟨-, -, h2, -⟩ := h.resolve_left (fun q => n q.1)
  obtain ⟨C, h0, hC, e⟩ := cyc_nI (r 0)
  rw [e] at h2
  have h9 := nI_iN h2.1 h2.2 (by omega)
  exact ⟨iN (r 2), C, h9.2, hC, h9.1, e⟩
theorem sp_plus {x : Int32} (h : 1 ≤ x ∧ x ≤ 3) : 1 ≤ (if x + 1 < 3 then x + 1 else 3) ∧ (if x + 1 < 3 then x + 1 else 3) ≤ 3 := by
  obtain ⟨k, hk, e⟩ := i_le (n := 3) (Int32.le_trans (by decide) h.1) h.2 (by decide)
  have : k = 0 ∨ k = 1 ∨ k = 2 ∨ k = 3 := by omega
  rw [e]
  rcases this with q | q | q | q <;> subst q <;> decide
theorem sp_less {x : Int32} (h : 1 ≤ x ∧ x ≤ 3) : 1 ≤ (if 1 < x - 1 then x - 1 else 1) ∧ (if 1 < x - 1 then x - 1 else 1) ≤ 3 := by
  obtain ⟨k, hk, e⟩ := i_le (n := 3) (Int32.le_trans (by decide) h.1) h.2 (by decide)
  have : k = 0 ∨ k = 1 ∨ k = 2 ∨ k = 3 := by omega
  rw [e]
  rcases this with q | q | q | q <;> subst q <;> decide
theorem cyc_pos (x : Int32) : 0 < cyc x := by
  unfold cyc
  repeat' split
  all_goals decide
theorem gong_e1 {r : Nat → Int32} (h : r 3 = 1) : gongR r = upd (upd (upd (upd r 4 (r 4 + 1)) 2 0) 1 (if r 1 + 1 < 3 then r 1 + 1 else 3)) 3 0 := by unfold gongR; simp only [if_pos h]
theorem gong_e2 {r : Nat → Int32} (h1 : ¬ r 3 = 1) (h : r 3 = 2) : gongR r = upd (upd (upd (upd r 4 (r 4 + 1)) 2 0) 1 (if 1 < r 1 - 1 then r 1 - 1 else 1)) 3 0 := by unfold gongR; simp only [if_neg h1, if_pos h]
theorem gong_e3 {r : Nat → Int32} (h1 : ¬ r 3 = 1) (h2 : ¬ r 3 = 2) (h : r 3 = 3) : gongR r = upd (upd (upd (upd (upd r 4 (r 4 + 1)) 2 0) 0 (-1)) 1 0) 3 0 := by unfold gongR; simp only [if_neg h1, if_neg h2, if_pos h]
theorem gong_e0 {r : Nat → Int32} (h1 : ¬ r 3 = 1) (h2 : ¬ r 3 = 2) (h : ¬ r 3 = 3) : gongR r = upd (upd (upd r 4 (r 4 + 1)) 2 0) 3 0 := by unfold gongR; simp only [if_neg h1, if_neg h2, if_neg h]
theorem gong_oi {r : Nat → Int32} (h0 : 0 ≤ r 0 ∧ r 0 ≤ 3) (h1 : 1 ≤ r 1 ∧ r 1 ≤ 3) : OI (gongR r) := by
  by_cases c1 : r 3 = 1
  · rw [gong_e1 c1]; exact Or.inr ⟨h0, sp_plus h1, ⟨show (0 : Int32) ≤ 0 by decide, show (0 : Int32) < cyc (r 0) from cyc_pos _⟩, show (0 : Int32) ≤ 0 ∧ (0 : Int32) ≤ 3 by decide⟩
  · by_cases c2 : r 3 = 2
    · rw [gong_e2 c1 c2]; exact Or.inr ⟨h0, sp_less h1, ⟨show (0 : Int32) ≤ 0 by decide, show (0 : Int32) < cyc (r 0) from cyc_pos _⟩, show (0 : Int32) ≤ 0 ∧ (0 : Int32) ≤ 3 by decide⟩
    · by_cases c3 : r 3 = 3
      · rw [gong_e3 c1 c2 c3]; exact Or.inl ⟨rfl, rfl, rfl, rfl⟩
      · rw [gong_e0 c1 c2 c3]; exact Or.inr ⟨h0, h1, ⟨show (0 : Int32) ≤ 0 by decide, show (0 : Int32) < cyc (r 0) from cyc_pos _⟩, show (0 : Int32) ≤ 0 ∧ (0 : Int32) ≤ 3 by decide⟩
theorem beat_oi {r : Nat → Int32} (h : OI r) (n : ¬ r 0 = -1) : OI (beatR r) := by
  obtain ⟨b, C, hb, hC, e1, e2⟩ := oi_beat h n
  obtain ⟨g0, g1, g2, g3⟩ := h.resolve_left (fun q => n q.1)
  unfold beatR
  by_cases c : r 2 + 1 = cyc (r 0)
  · rw [if_pos c]
    exact gong_oi (r := upd r 2 (r 2 + 1)) g0 g1
  · rw [if_neg c]
    refine Or.inr ⟨g0, g1, ⟨show 0 ≤ r 2 + 1 from ?_, show r 2 + 1 < cyc (r 0) from ?_⟩, g3⟩
    · rw [e1, nI_1]; exact nI_0le _ (by omega)
    · rw [e1, e2, nI_1] at c ⊢
      have hne : ¬ b + 1 = C := fun q => c (by rw [q])
      exact nI_lt (by omega) (by omega)
theorem beats_oi : ∀ (j : Nat) {r : Nat → Int32}, OI r → OI (beatsR j r) := by
  intro j
  induction j with
  | zero => intro r h; exact h
  | succ j ih =>
    intro r h
    show OI (if r 0 = -1 then r else beatsR j (beatR r))
    by_cases c : r 0 = -1
    · rw [if_pos c]; exact h
    · rw [if_neg c]; exact ih (beat_oi h c)
theorem oi_spd {r : Nat → Int32} (h : OI r) : spd r := by
  rcases h with h | h
  · exact Or.inl h.2.1
  · obtain ⟨k, hk, e⟩ := i_le (n := 3) (Int32.le_trans (by decide) h.2.1.1) h.2.1.2 (by decide)
    have : k = 0 ∨ k = 1 ∨ k = 2 ∨ k = 3 := by omega
    unfold spd
    rw [e]
    rcases this with q | q | q | q <;> subst q <;> decide
theorem IV.spd {σ : NS} (hv : IV σ) : spd σ.o := oi_spd hv.oi
theorem play_24 {r : Nat → Int32} (h : OI r) : 8 * r 1 = nI (8 * r 1).toNatClampNeg ∧ (8 * r 1).toNatClampNeg ≤ 24 := by
  rcases oi_spd h with h | h | h | h <;> rw [h] <;> decide
/-- a minute keeps it -/
theorem IV_mn1 {σ : NS} (hv : IV σ) {M : Nat} (hM : σ.mi = nI M) (hl : M < 540) : IV (mn1 σ) := by
  have h9 : 0 ≤ σ.mi + 1 ∧ σ.mi + 1 ≤ 540 := by
    rw [hM, nI_1]
    exact i_in (n := 540) (by omega) (by decide)
  have h1 : IV (σ.up 0 (σ.mi + 1)) := IV.vW hv h9 hv.tiB hv.lpB hv.beB
  exact (show IV ((σ.up 0 (σ.mi + 1)).wO (playR σ.o)) from IV.oW h1 (beats_oi _ hv.oi))
theorem ti_less {x : Int32} (h : 0 ≤ x ∧ x ≤ 100) (c : 0 < x) : 0 ≤ x - 1 ∧ x - 1 ≤ 100 := by
  obtain ⟨k, hk, e⟩ := i_le (n := 100) h.1 h.2 (by decide)
  rw [e] at c ⊢
  have h1 : 0 < k := (nI_ltI (a := 0) (by omega) (by omega)).mp c
  rw [show nI k - 1 = nI (k - 1) from pk_sub (a := k) (b := 1) h1]
  exact i_in (n := 100) (by omega) (by decide)
theorem IV_mn2 {sp : Int32} {σ : NS} (hv : IV σ) {M : Nat} (hM : σ.mi = nI M) (hl : M < 540) : IV (mn2 sp σ) := by
  have h1 := IV_mn1 hv hM hl
  unfold mn2
  by_cases c : sp = 0 ∧ 0 < σ.ti
  · rw [if_pos c]; exact h1.vW h1.miB (ti_less hv.tiB c.2) h1.lpB h1.beB
  · rw [if_neg c]; exact h1
theorem IV_mn {sp : Int32} {σ : NS} (hv : IV σ) {M : Nat} (hM : σ.mi = nI M) (hl : M < 540) : IV (mnS sp σ) := by
  have h2 := IV_mn2 (sp := sp) hv hM hl
  unfold mnS
  split
  · refine h2.figW h2.1.2.2 (fun k hk => ?_)
    unfold wearF1
    split
    · exact FR_wear (h2.FR hk) (by decide) (by decide)
    · exact h2.FR hk
  · exact h2
theorem mn_mi (sp : Int32) (σ : NS) : (mnS sp σ).mi = σ.mi + 1 := by
  have e : (mn2 sp σ).mi = σ.mi + 1 := by
    unfold mn2
    split <;> rfl
  unfold mnS
  split
  · exact e
  · exact e
theorem IV_go {sp : Int32} {σ : NS} (hv : IV σ) {M : Nat} (hM : σ.mi = nI M) : ∀ k, M + k ≤ 540 → IV (goN sp k σ) ∧ (goN sp k σ).mi = nI (M + k) := by
  intro k
  induction k with
  | zero => intro _; exact ⟨hv, hM⟩
  | succ k ih =>
    intro hk
    obtain ⟨h1, h2⟩ := ih (by omega)
    refine ⟨IV_mn (σ := goN sp k σ) h1 h2 (by omega), ?_⟩
    show (mnS sp (goN sp k σ)).mi = _
    rw [mn_mi, h2, nI_1]
    rfl
/-! call by call -/
theorem iv_lamp {σ : NS} (hv : IV σ) (x y : Int32) : IV (sp_lamp σ x y).2.2 := by
  unfold sp_lamp
  split
  · exact hv
  · rename_i c
    exact ⟨hv.1, hv.2.1, hv.2.2.1, hv.2.2.2.1, nout (fun q => c (Or.inl q)), nout (fun q => c (Or.inr q)), hv.2.2.2.2.2.2⟩
theorem iv_joke {σ : NS} (hv : IV σ) (x : Int32) : IV (sp_joke σ x).2.2 := by
  unfold sp_joke
  split
  · exact hv
  · rename_i c
    split
    · rename_i c2
      obtain ⟨h0, h1⟩ := nout c
      obtain ⟨p, hp, e1⟩ := i_le (n := 30) hv.beB.1 hv.beB.2 (by decide)
      obtain ⟨q, hq, e2⟩ := i_le (n := 9) h0 h1 (by decide)
      refine hv.vW hv.miB hv.tiB hv.lpB (show 0 ≤ σ.be - x ∧ σ.be - x ≤ 30 from ?_)
      rw [e1, e2] at c2 ⊢
      have : q ≤ p := (nI_leI (by omega) (by omega)).mp c2
      rw [pk_sub this]
      exact i_in (n := 30) (by omega) (by decide)
    · exact hv.vW hv.miB hv.tiB hv.lpB hv.beB
theorem gripS_23 {sd : Int32} {r : Nat → Int32} {F : Nat → Nat → Int32} {n : Nat} (h : ¬ gripS sd r F n = -1) : gripS sd r F n = 2 ∨ gripS sd r F n = 3 := by
  revert h
  unfold gripS
  repeat' split
  all_goals (intro h; first | exact absurd rfl h | exact Or.inl rfl | exact Or.inr rfl | exact Or.inl (by assumption) | skip)
  all_goals (first | (split <;> first | exact Or.inl rfl | exact Or.inr rfl) | skip)
theorem isF_lt {σ : NS} (hv : IV σ) {x : Int32} (h : ¬ ¬ σ.isF x) : iN x < σ.nf := by
  have hn := hv.1.2.2
  exact (cat_in (Decidable.of_not_not h) (by omega)).2
theorem iv_grip {σ : NS} (hv : IV σ) (x : Int32) : IV (sp_grip σ x).2.2 := by
  unfold sp_grip
  split
  · exact hv
  · rename_i c
    have hk := isF_lt hv c
    have hr := hv.FR hk
    split
    · exact hv
    · rename_i g
      have g23 := gripS_23 g
      have h5 := hv.low hk g
      refine hv.figU ?_
      by_cases c0 : σ.Fx x 3 = 0
      · rw [if_pos c0]
        refine ⟨hr.1, hr.2.1, hr.2.2.1, Or.inr (Or.inr ⟨g23, (show 0 ≤ (if sdS σ (iN x) = 0 then (0 : Int32) else 9) ∧ (if sdS σ (iN x) = 0 then (0 : Int32) else 9) ≤ 9 from by split <;> decide), (show 0 ≤ σ.F (iN x) 5 ∧ σ.F (iN x) 5 ≤ 15 from by rw [h5]; decide)⟩)⟩
      · rw [if_neg c0]
        refine ⟨hr.1, hr.2.1, hr.2.2.1, Or.inr (Or.inr ⟨g23, ?_, (show 0 ≤ σ.F (iN x) 5 ∧ σ.F (iN x) 5 ≤ 15 from by rw [h5]; decide)⟩)⟩
        rcases hr.2.2.2 with q | q | q
        · exact absurd q.1 c0
        · exact q.2.1
        · exact q.2.1
theorem IV.hand {σ : NS} (hv : IV σ) {k : Nat} (hk : k < σ.nf) (h : σ.F k 3 = 2 ∨ σ.F k 3 = 3) : (0 ≤ σ.F k 4 ∧ σ.F k 4 ≤ 9) ∧ 0 ≤ σ.F k 5 ∧ σ.F k 5 ≤ 15 := by
  rcases (hv.FR hk).2.2.2 with q | q | q
  · rw [q.1] at h; exact absurd h (by decide)
  · rw [q.1] at h; exact absurd h (by decide)
  · exact q.2
theorem abs_9 {x y : Int32} (hx : 0 ≤ x ∧ x ≤ 9) (hy : 0 ≤ y ∧ y ≤ 9) : 0 ≤ absI (x - y) ∧ absI (x - y) ≤ 9 := by
  obtain ⟨p, hp, e1⟩ := i_le (n := 9) hx.1 hx.2 (by decide)
  obtain ⟨q, hq, e2⟩ := i_le (n := 9) hy.1 hy.2 (by decide)
  rw [e1, e2]
  exact (by decide +kernel : ∀ p, p < 10 → ∀ q, q < 10 → 0 ≤ absI (nI p - nI q) ∧ absI (nI p - nI q) ≤ 9) p (by omega) q (by omega)
theorem iv_move {σ : NS} (hv : IV σ) (x y : Int32) : IV (sp_move σ x y).2.2 := by
  unfold sp_move
  split
  · exact hv
  · rename_i c
    have hk := isF_lt hv c
    have hr := hv.FR hk
    split
    · exact hv
    · rename_i c2
      split
      · exact hv
      · rename_i c3
        have hy := Decidable.of_not_not c2
        have hh : σ.F (iN x) 3 = 2 ∨ σ.F (iN x) 3 = 3 := Decidable.of_not_not (fun q => c3 (Or.inl q))
        have ha := hv.hand hk hh
        have h9 := abs_9 hy ha.1
        have hw := FR_wear hr h9.1 (Int32.le_trans h9.2 (by decide))
        exact hv.figU ⟨hw.1, hw.2.1, hw.2.2.1, Or.inr (Or.inr ⟨hh, hy, ha.2⟩)⟩
theorem iv_lift {σ : NS} (hv : IV σ) (x y : Int32) : IV (sp_lift σ x y).2.2 := by
  unfold sp_lift
  split
  · exact hv
  · rename_i c
    have hk := isF_lt hv c
    have hr := hv.FR hk
    split
    · exact hv
    · rename_i c2
      split
      · exact hv
      · rename_i c3
        have hh : σ.F (iN x) 3 = 2 ∨ σ.F (iN x) 3 = 3 := Decidable.of_not_not c3
        exact hv.figU ⟨hr.1, hr.2.1, hr.2.2.1, Or.inr (Or.inr ⟨hh, (hv.hand hk hh).1, nout c2⟩)⟩
theorem iv_plant {σ : NS} (hv : IV σ) (x : Int32) : IV (sp_plant σ x).2.2 := by
  unfold sp_plant
  split
  · exact hv
  · rename_i c
    have hk := isF_lt hv c
    have hr := hv.FR hk
    split
    · exact hv
    · rename_i c3
      have hh : σ.F (iN x) 3 = 2 ∨ σ.F (iN x) 3 = 3 := Decidable.of_not_not c3
      exact hv.figU ⟨hr.1, hr.2.1, hr.2.2.1, Or.inr (Or.inl ⟨rfl, (hv.hand hk hh).1, rfl⟩)⟩
theorem iv_hand {σ : NS} (hv : IV σ) (x : Int32) : IV (sp_hand σ x).2.2 := by
  unfold sp_hand
  split
  · exact hv
  · rename_i c
    have hk := isF_lt hv c
    have hr := hv.FR hk
    split
    · exact hv
    · rename_i c3
      have hh : σ.F (iN x) 3 = 2 ∨ σ.F (iN x) 3 = 3 := Decidable.of_not_not (fun q => c3 (Or.inl q))
      have ho : othH σ x = 2 ∨ othH σ x = 3 := by
        unfold othH
        split
        · exact Or.inr rfl
        · exact Or.inl rfl
      exact hv.figU ⟨hr.1, hr.2.1, hr.2.2.1, Or.inr (Or.inr ⟨ho, (hv.hand hk hh).1, (hv.hand hk hh).2⟩)⟩
theorem iv_away {σ : NS} (hv : IV σ) (x : Int32) : IV (sp_away σ x).2.2 := by
  unfold sp_away
  split
  · exact hv
  · rename_i c
    have hk := isF_lt hv c
    have hr := hv.FR hk
    by_cases c3 : ¬ (σ.Fx x 3 = 2 ∨ σ.Fx x 3 = 3) ∨ ¬ σ.Fx x 4 = (if sdS σ (iN x) = 0 then 0 else 9)
    · rw [if_pos c3]; exact hv
    · rw [if_neg c3]; exact hv.figU ⟨hr.1, hr.2.1, hr.2.2.1, Or.inl ⟨rfl, rfl, rfl⟩⟩
theorem iv_tap {σ : NS} (hv : IV σ) (x : Int32) : IV (sp_tap σ x).2.2 := by
  unfold sp_tap
  split
  · exact hv
  · rename_i c
    split
    · split
      · exact hv.vW hv.miB hv.tiB hv.lpB hv.beB
      · rename_i c2
        have hs : σ.o 0 = -1 := Decidable.of_not_not (fun q => c2 (Or.inr q))
        obtain ⟨k, hk, e⟩ := (on_cases σ).resolve_left (fun q => c2 (Or.inl q))
        have hm := (hv.2.2.1 k hk).2.2.2.2.1
        have hn2 := hv.1.2.1
        have o9 := hv.oi.resolve_right (fun q => by rw [hs] at q; exact absurd q.1.1 (by decide))
        refine hv.oW (Or.inr ⟨?_, (show (1 : Int32) ≤ 1 ∧ (1 : Int32) ≤ 3 by decide), ?_, ?_⟩)
        · show 0 ≤ σ.S (iN (onS σ)) 1 ∧ σ.S (iN (onS σ)) 1 ≤ 3
          rw [e, iN_nI (by omega)]
          exact hm
        · show 0 ≤ σ.o 2 ∧ σ.o 2 < cyc (σ.S (iN (onS σ)) 1)
          rw [o9.2.2.1]
          exact ⟨by decide, cyc_pos _⟩
        · show 0 ≤ σ.o 3 ∧ σ.o 3 ≤ 3
          rw [o9.2.2.2]
          decide
    · split
      · exact hv.vW hv.miB hv.tiB hv.lpB hv.beB
      · rename_i c2
        have o9 := hv.oi.resolve_left (fun q => c2 q.1)
        exact hv.oW (Or.inr ⟨o9.1, o9.2.1, o9.2.2.1, nout c⟩)
theorem mi_nat {σ : NS} (hv : IV σ) : ∃ M : Nat, M ≤ 540 ∧ σ.mi = nI M := i_le (n := 540) hv.miB.1 hv.miB.2 (by decide)
theorem mi_sum {σ : NS} {M k : Nat} {x : Int32} (hM : σ.mi = nI M) (hM9 : M ≤ 540) (hx : x = nI k) (hk : k < 1000) (h : σ.mi + x ≤ 540) : M + k ≤ 540 := by
  rw [hM, hx, nI_add] at h
  exact (nI_leI (b := 540) (by omega) (by decide)).mp h
theorem IV_ofS {σ : NS} (hv : IV σ) : IV (ofS σ) := by
  refine hv.vW hv.miB hv.tiB hv.lpB (show 0 ≤ (if σ.be + 5 < 30 then σ.be + 5 else 30) ∧ (if σ.be + 5 < 30 then σ.be + 5 else 30) ≤ 30 from ?_)
  obtain ⟨p, hp, e⟩ := i_le (n := 30) hv.beB.1 hv.beB.2 (by decide)
  split
  · rename_i c
    exact ⟨by rw [e, show nI p + 5 = nI (p + 5) from nI_add p 5]; exact nI_0le _ (by omega), Int32.le_of_lt c⟩
  · decide
theorem iv_offer {σ : NS} (hv : IV σ) : IV (sp_offer σ).2.2 := by
  unfold sp_offer
  split
  · exact hv
  · rename_i c
    obtain ⟨M, hM9, hM⟩ := mi_nat hv
    have hM2 : (ofS σ).mi = nI M := hM
    have h9 : M + 3 ≤ 540 := mi_sum (k := 3) hM hM9 rfl (by decide) (Decidable.of_not_not c)
    have h3 := IV_go (sp := 0) (IV_ofS hv) hM2 3 h9
    generalize goN 0 3 (ofS σ) = τ at h3 ⊢
    exact h3.1
theorem iv_pass {σ : NS} (hv : IV σ) (x : Int32) : IV (sp_pass σ x).2.2 := by
  unfold sp_pass
  split
  · exact hv
  · rename_i c
    split
    · exact hv
    · rename_i c2
      obtain ⟨M, hM9, hM⟩ := mi_nat hv
      have hx := pos_in (a := 1) (n := 99) c (by decide) (by decide)
      have h3 := IV_go (sp := 0) hv hM (iN x) (mi_sum hM hM9 hx.1 hx.2 (Decidable.of_not_not c2))
      generalize goN 0 (iN x) σ = τ at h3 ⊢
      exact h3.1
theorem IV_spL {σ : NS} (hv : IV σ) {x y z u : Int32} (hx : iN x < σ.np) (hz : 1 ≤ z ∧ z ≤ 9) : IV (spL σ x y z u) := by
  have hp := (hv.2.1 _ hx).2.2.1
  have h1 : IV (spM σ x z) := by
    have ha := abs_9 hp hv.lpB
    obtain ⟨p, hp9, e1⟩ := i_le (n := 9) ha.1 ha.2 (by decide)
    obtain ⟨q, hq9, e2⟩ := i_le (n := 9) (Int32.le_trans (by decide) hz.1) hz.2 (by decide)
    have hq2 : q * p ≤ 9 * 9 := Nat.mul_le_mul hq9 hp9
    have he : spE σ x z = nI (1 + q * p / 3) := by
      unfold spE
      rw [e1, e2, pk_mul, show (3 : Int32) = nI 3 from rfl, pk_div (by omega) (by decide) (by decide)]
      exact nI_add 1 _
    have h0 : 0 ≤ (if σ.ti + spE σ x z < 100 then σ.ti + spE σ x z else 100) ∧ (if σ.ti + spE σ x z < 100 then σ.ti + spE σ x z else 100) ≤ 100 := by
      rw [he]
      exact wear_in hv.tiB (nI_0le _ (by omega)) (show nI (1 + q * p / 3) ≤ nI 100 from nI_le (by omega) (by decide))
    have hA : IV (σ.up 1 (if σ.ti + spE σ x z < 100 then σ.ti + spE σ x z else 100)) := IV.vW hv hv.miB h0 hv.lpB hv.beB
    exact (show IV ((σ.up 1 (if σ.ti + spE σ x z < 100 then σ.ti + spE σ x z else 100)).up 2 (σ.P (iN x) 2)) from IV.vW hA hA.miB hA.tiB hp hA.beB)
  unfold spL
  split
  · exact h1
  · exact h1.vW h1.miB h1.tiB h1.lpB h1.beB
theorem spL_mi (σ : NS) (x y z u : Int32) : (spL σ x y z u).mi = σ.mi := by
  unfold spL
  split <;> rfl
theorem iv_speak {σ : NS} (hv : IV σ) (x y z u : Int32) : IV (sp_speak σ x y z u).2.2 := by
  unfold sp_speak
  split
  · exact hv
  · rename_i c1
    split
    · exact hv
    · rename_i c2
      split
      · exact hv
      · rename_i c3
        obtain ⟨M, hM9, hM⟩ := mi_nat hv
        have hz9 : ¬ out z 1 9 := fun q => c2 (Or.inr (Or.inl q))
        have hz := pos_in (a := 1) (n := 9) hz9 (by decide) (by decide)
        have hn8 := hv.1.1
        have hx := (cat_in (Decidable.of_not_not (fun q => c1 (Or.inl q)) : σ.isP x) (by omega)).2
        have h4 := mi_sum hM hM9 hz.1 hz.2 (Decidable.of_not_not (fun q => c3 (Or.inr (Or.inr q))))
        have h5 := IV_spL (y := y) (u := u) hv hx (nout hz9)
        have h6 : (spL σ x y z u).mi = nI M := (spL_mi σ x y z u).trans hM
        have h3 := IV_go (sp := 1) h5 h6 (iN z) h4
        generalize goN 1 (iN z) (spL σ x y z u) = τ at h3 ⊢
        exact h3.1
theorem shl_up {n : Nat} (hn : n < 8) {x : Int32} (h : x < (1 : Int32) <<< (nI n &&& 31)) : x < (1 : Int32) <<< (nI (n + 1) &&& 31) := by
  rw [pw2 n (by omega)] at h
  rw [pw2 (n + 1) (by omega)]
  have h2 : 2 ^ (n + 1) ≤ 2 ^ 8 := Nat.pow_le_pow_right (by decide) (by omega)
  exact Int32.lt_of_lt_of_le h (nI_le (Nat.pow_le_pow_right (by decide) (Nat.le_succ n)) (by omega))
theorem iv_person {σ : NS} (hv : IV σ) (x y z u v9 w9 : Int32) (hw : w9 = 0 ∨ w9 = 1) : IV (sp_person σ x y z u v9 w9).2.2 := by
  unfold sp_person
  split
  · exact hv
  · rename_i c
    split
    · exact hv
    · rename_i c2
      have hn : σ.np < 8 := Decidable.of_not_not c2
      have hx := nout (fun q => c (Or.inl q))
      have hy := nout (fun q => c (Or.inr (Or.inl q)))
      have hz := nout (fun q => c (Or.inr (Or.inr (Or.inl q))))
      have hu := nout (fun q => c (Or.inr (Or.inr (Or.inr (Or.inl q)))))
      have h4 : u < v9 := Int32.not_le.mp (fun q => c (Or.inr (Or.inr (Or.inr (Or.inr (Or.inl q))))))
      have h5 : v9 ≤ 100 := Decidable.of_not_not (fun q => c (Or.inr (Or.inr (Or.inr (Or.inr (Or.inr q))))))
      refine ⟨⟨hn, hv.1.2.1, hv.1.2.2⟩, fun k hk => ?_, fun k hk => ?_, fun k hk => ?_, hv.2.2.2.2⟩
      · have hk9 : k < σ.np + 1 := hk
        show (upF σ.P σ.np (r6 x y z u v9 w9) k 0 = 0 ∨ upF σ.P σ.np (r6 x y z u v9 w9) k 0 = 1) ∧ (0 ≤ upF σ.P σ.np (r6 x y z u v9 w9) k 1 ∧ upF σ.P σ.np (r6 x y z u v9 w9) k 1 ≤ 3) ∧ (0 ≤ upF σ.P σ.np (r6 x y z u v9 w9) k 2 ∧ upF σ.P σ.np (r6 x y z u v9 w9) k 2 ≤ 9) ∧ (0 ≤ upF σ.P σ.np (r6 x y z u v9 w9) k 3 ∧ upF σ.P σ.np (r6 x y z u v9 w9) k 3 < upF σ.P σ.np (r6 x y z u v9 w9) k 4 ∧ upF σ.P σ.np (r6 x y z u v9 w9) k 4 ≤ 100) ∧ (upF σ.P σ.np (r6 x y z u v9 w9) k 5 = 0 ∨ upF σ.P σ.np (r6 x y z u v9 w9) k 5 = 1)
        by_cases q : k = σ.np
        · rw [show upF σ.P σ.np (r6 x y z u v9 w9) k = r6 x y z u v9 w9 from if_pos q]
          refine ⟨?_, hy, hz, ⟨hu.1, h4, h5⟩, hw⟩
          obtain ⟨a, ha, e⟩ := i_le (n := 1) hx.1 hx.2 (by decide)
          have : a = 0 ∨ a = 1 := by omega
          show x = 0 ∨ x = 1
          rcases this with z9 | z9
          · exact Or.inl (by rw [e, z9]; rfl)
          · exact Or.inr (by rw [e, z9]; rfl)
        · rw [show upF σ.P σ.np (r6 x y z u v9 w9) k = σ.P k from if_neg q]
          exact hv.2.1 k (by omega)
      · have h := hv.2.2.1 k hk
        exact ⟨⟨h.1.1, shl_up hn h.1.2⟩, h.2⟩
      · have h := hv.2.2.2.1 k hk
        exact ⟨⟨h.1.1, Int32.lt_of_lt_of_le h.1.2 (show nI σ.np ≤ nI (σ.np + 1) from nI_le (Nat.le_succ _) (by omega))⟩, h.2⟩
theorem iv_figure {σ : NS} (hv : IV σ) (x y : Int32) : IV (sp_figure σ x y).2.2 := by
  unfold sp_figure
  split
  · exact hv
  · rename_i c
    split
    · exact hv
    · rename_i c2
      split
      · exact hv
      · rename_i c3
        refine hv.figW (Decidable.of_not_not c3) (fun k hk => ?_)
        by_cases q : k = σ.nf
        · rw [show upF σ.F σ.nf (r6 x y 0 0 (-1) 0) k = r6 x y 0 0 (-1) 0 from if_pos q]
          exact ⟨Decidable.of_not_not c, nout c2, (show (0 : Int32) ≤ 0 ∧ (0 : Int32) ≤ 100 by decide), Or.inl ⟨rfl, rfl, rfl⟩⟩
        · rw [show upF σ.F σ.nf (r6 x y 0 0 (-1) 0) k = σ.F k from if_neg q]
          exact hv.FR (by omega)
theorem iv_scene {σ : NS} (hv : IV σ) (x y z u v9 w9 : Int32) : IV (sp_scene σ x y z u v9 w9).2.2 := by
  unfold sp_scene
  split
  · exact hv
  · rename_i c
    split
    · exact hv
    · rename_i c2
      have hn : σ.ns < 10 := Decidable.of_not_not c2
      refine ⟨⟨hv.1.1, hn, hv.1.2.2⟩, hv.2.1, fun k hk => ?_, hv.2.2.2⟩
      have hk9 : k < σ.ns + 1 := hk
      show (0 < upF σ.S σ.ns (r6 x y z u v9 w9) k 2 ∧ upF σ.S σ.ns (r6 x y z u v9 w9) k 2 < (1 : Int32) <<< (nI σ.np &&& 31)) ∧ (upF σ.S σ.ns (r6 x y z u v9 w9) k 4 = -1 ∨ holdsP (upF σ.S σ.ns (r6 x y z u v9 w9) k 2) (upF σ.S σ.ns (r6 x y z u v9 w9) k 4)) ∧ (upF σ.S σ.ns (r6 x y z u v9 w9) k 5 = -1 ∨ holdsP (upF σ.S σ.ns (r6 x y z u v9 w9) k 2) (upF σ.S σ.ns (r6 x y z u v9 w9) k 5)) ∧ (0 ≤ upF σ.S σ.ns (r6 x y z u v9 w9) k 0 ∧ upF σ.S σ.ns (r6 x y z u v9 w9) k 0 ≤ 100) ∧ (0 ≤ upF σ.S σ.ns (r6 x y z u v9 w9) k 1 ∧ upF σ.S σ.ns (r6 x y z u v9 w9) k 1 ≤ 3) ∧ (5 ≤ upF σ.S σ.ns (r6 x y z u v9 w9) k 3 ∧ upF σ.S σ.ns (r6 x y z u v9 w9) k 3 ≤ 90)
      by_cases q : k = σ.ns
      · rw [show upF σ.S σ.ns (r6 x y z u v9 w9) k = r6 x y z u v9 w9 from if_pos q]
        exact ⟨Decidable.of_not_not (fun q => c (Or.inr (Or.inr (Or.inl q)))), Decidable.of_not_not (fun q => c (Or.inr (Or.inr (Or.inr (Or.inr (Or.inl q)))))), Decidable.of_not_not (fun q => c (Or.inr (Or.inr (Or.inr (Or.inr (Or.inr q)))))), nout (fun q => c (Or.inl q)), nout (fun q => c (Or.inr (Or.inl q))), Decidable.of_not_not (fun q => c (Or.inr (Or.inr (Or.inr (Or.inl q)))))⟩
      · rw [show upF σ.S σ.ns (r6 x y z u v9 w9) k = σ.S k from if_neg q]
        exact hv.2.2.1 k (by omega)
theorem iv_length {σ : NS} (hv : IV σ) (x y : Int32) : IV (sp_length σ x y).2.2 := by
  unfold sp_length
  split
  · exact hv
  · rename_i c
    split
    · exact hv
    · rename_i c2
      split
      · exact hv
      · have hn := hv.1.2.1
        have hk := (cat_in (Decidable.of_not_not c : σ.isS x) (by omega)).2
        refine ⟨hv.1, hv.2.1, fun k hk2 => ?_, hv.2.2.2⟩
        have h := hv.2.2.1 k hk2
        show (0 < upF σ.S (iN x) (upd (σ.S (iN x)) 3 y) k 2 ∧ upF σ.S (iN x) (upd (σ.S (iN x)) 3 y) k 2 < (1 : Int32) <<< (nI σ.np &&& 31)) ∧ (upF σ.S (iN x) (upd (σ.S (iN x)) 3 y) k 4 = -1 ∨ holdsP (upF σ.S (iN x) (upd (σ.S (iN x)) 3 y) k 2) (upF σ.S (iN x) (upd (σ.S (iN x)) 3 y) k 4)) ∧ (upF σ.S (iN x) (upd (σ.S (iN x)) 3 y) k 5 = -1 ∨ holdsP (upF σ.S (iN x) (upd (σ.S (iN x)) 3 y) k 2) (upF σ.S (iN x) (upd (σ.S (iN x)) 3 y) k 5)) ∧ (0 ≤ upF σ.S (iN x) (upd (σ.S (iN x)) 3 y) k 0 ∧ upF σ.S (iN x) (upd (σ.S (iN x)) 3 y) k 0 ≤ 100) ∧ (0 ≤ upF σ.S (iN x) (upd (σ.S (iN x)) 3 y) k 1 ∧ upF σ.S (iN x) (upd (σ.S (iN x)) 3 y) k 1 ≤ 3) ∧ (5 ≤ upF σ.S (iN x) (upd (σ.S (iN x)) 3 y) k 3 ∧ upF σ.S (iN x) (upd (σ.S (iN x)) 3 y) k 3 ≤ 90)
        by_cases q : k = iN x
        · rw [show upF σ.S (iN x) (upd (σ.S (iN x)) 3 y) k = upd (σ.S (iN x)) 3 y from if_pos q]
          rw [q] at h
          exact ⟨h.1, h.2.1, h.2.2.1, h.2.2.2.1, h.2.2.2.2.1, Decidable.of_not_not c2⟩
        · rw [show upF σ.S (iN x) (upd (σ.S (iN x)) 3 y) k = σ.S k from if_neg q]
          exact h
theorem IV.perm {σ : NS} (hv : IV σ) {s : Nat → Nat} (hs : ∀ k, k < σ.ns → s k < σ.ns) : IV (σ.wS σ.ns (fun k => σ.S (s k))) := ⟨hv.1, hv.2.1, fun k hk => hv.2.2.1 (s k) (hs k hk), hv.2.2.2⟩
theorem iv_swap {σ : NS} (hv : IV σ) (x y : Int32) : IV (sp_swap σ x y).2.2 := by
  unfold sp_swap
  split
  · exact hv
  · rename_i c
    split
    · exact hv
    · have hn := hv.1.2.1
      have hx := (cat_in (Decidable.of_not_not (fun q => c (Or.inl q)) : σ.isS x) (by omega)).2
      have hy := (cat_in (Decidable.of_not_not (fun q => c (Or.inr q)) : σ.isS y) (by omega)).2
      exact hv.perm (fun k hk => sw_lt hx hy hk)
theorem same_ofFigure (σ : NS) (x q : Int32) : (sp_ofFigure σ x q).2.2 = σ := by
  unfold sp_ofFigure
  split
  · rfl
  · split <;> rfl
theorem same_ofScene (σ : NS) (x q : Int32) : (sp_ofScene σ x q).2.2 = σ := by
  unfold sp_ofScene
  split
  · rfl
  · split <;> rfl
theorem same_at (σ : NS) (x : Int32) : (sp_at σ x).2.2 = σ := by unfold sp_at; split <;> rfl
theorem same_sound (σ : NS) (x : Int32) : (sp_sound σ x).2.2 = σ := by unfold sp_sound; split <;> rfl
theorem same_many (σ : NS) (x : Int32) : (sp_many σ x).2.2 = σ := by unfold sp_many; split <;> rfl
theorem same_liftFor (σ : NS) (x q : Int32) : (sp_liftFor σ x q).2.2 = σ := by
  unfold sp_liftFor
  split
  · rfl
  · split <;> rfl
theorem same_knows (σ : NS) (x q : Int32) : (sp_knows σ x q).2.2 = σ := by unfold sp_knows; split <;> rfl
theorem IV_ns0 : IV ns0 := ⟨by decide, fun k hk => absurd hk (Nat.not_lt_zero _), fun k hk => absurd hk (Nat.not_lt_zero _), fun k hk => absurd hk (Nat.not_lt_zero _), by decide, by decide, Or.inl ⟨rfl, rfl, rfl, rfl⟩, by decide, by decide, by decide, by decide⟩
