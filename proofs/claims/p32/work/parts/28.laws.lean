/-! WHAT THE LAW ASKS OF EVERY NIGHT: of the night in numbers -/
/-- no two in one place, none beside one in its hand, none beyond a hand's reach -/
def EX (F : Nat → Nat → Int32) (n : Nat) : Prop :=
  (∀ i j, i < n → j < n → i ≠ j → F i 3 ≠ 0 → F j 3 ≠ 0 → F i 4 ≠ F j 4) ∧
  (∀ i j, i < n → j < n → i ≠ j → F i 3 = F j 3 → F i 3 = 0 ∨ F i 3 = 1) ∧
  (∀ i, i < n → (F i 3 = 2 → F i 4 ≤ 5) ∧ (F i 3 = 3 → 4 ≤ F i 4))
theorem EX.le {F : Nat → Nat → Int32} {n m : Nat} (h : EX F n) (hm : m ≤ n) : EX F m := ⟨fun i j hi hj => h.1 i j (by omega) (by omega), fun i j hi hj => h.2.1 i j (by omega) (by omega), fun i hi => h.2.2 i (by omega)⟩
theorem nI_m1 {k : Nat} (h : k < 2 ^ 31) : ¬ nI k = -1 := fun e => by
  have h9 := nI_pos' h
  rw [e] at h9
  exact absurd h9 (by decide)
theorem ff_no {p : Nat → Prop} [DecidablePred p] : ∀ j k, (∀ i, k ≤ i → i < k + j → ¬ p i) → ff p j k = -1 := by
  intro j
  induction j with
  | zero => intro k _; rfl
  | succ j ih =>
    intro k h
    show (if p k then nI k else ff p j (k + 1)) = -1
    rw [if_neg (h k (Nat.le_refl _) (by omega))]
    exact ih (k + 1) (fun i h1 h2 => h i (by omega) (by omega))
theorem ff_at {p : Nat → Prop} [DecidablePred p] {m : Nat} : ∀ j k, k ≤ m → m < k + j → p m → (∀ i, k ≤ i → i < m → ¬ p i) → ff p j k = nI m := by
  intro j
  induction j with
  | zero => intro k h1 h2; omega
  | succ j ih =>
    intro k h1 h2 hm h
    show (if p k then nI k else ff p j (k + 1)) = nI m
    by_cases e : k = m
    · subst e
      rw [if_pos hm]
    · rw [if_neg (h k (Nat.le_refl _) (by omega))]
      exact ih (k + 1) (by omega) (by omega) hm (fun i h3 h4 => h i (by omega) h4)
theorem ff_in {p : Nat → Prop} [DecidablePred p] : ∀ j k, k + j < 2 ^ 31 → ∀ i, k ≤ i → i < k + j → p i → ¬ ff p j k = -1 := by
  intro j
  induction j with
  | zero => intro k _ i h1 h2; omega
  | succ j ih =>
    intro k hk i h1 h2 hp
    show ¬ (if p k then nI k else ff p j (k + 1)) = -1
    by_cases c : p k
    · rw [if_pos c]
      exact nI_m1 (by omega)
    · rw [if_neg c]
      have e : i ≠ k := fun e => c (e ▸ hp)
      exact ih (k + 1) (by omega) i (by omega) (by omega) hp
theorem at_fig {F : Nat → Nat → Int32} {n : Nat} (x : EX F n) {k : Nat} (hk : k < n) (h3 : F k 3 ≠ 0) : figAt F n (F k 4) = nI k :=
  ff_at n 0 (Nat.zero_le _) (by omega) ⟨h3, rfl⟩ (fun i _ hi q => x.1 i k (by omega) hk (by omega) q.1 h3 q.2)
theorem at_neg {F : Nat → Nat → Int32} {n : Nat} (hn : n < 100) {pl : Int32} : figAt F n pl = -1 ↔ ∀ i, i < n → ¬ (F i 3 ≠ 0 ∧ F i 4 = pl) :=
  ⟨fun e i hi hp => ff_in (p := fun k => F k 3 ≠ 0 ∧ F k 4 = pl) n 0 (by omega) i (Nat.zero_le _) (by omega) hp e, fun h => ff_no n 0 (fun i _ h2 => h i (by omega))⟩
theorem at_lt {F : Nat → Nat → Int32} {n : Nat} (hn : n < 100) {pl : Int32} : figAt F n pl < 0 ↔ figAt F n pl = -1 := by
  rcases ff_cases (p := fun k => F k 3 ≠ 0 ∧ F k 4 = pl) n 0 rfl with h | ⟨i, hi, -, h⟩
  · have h : figAt F n pl = -1 := h
    rw [h]
    decide
  · have h : figAt F n pl = nI i := h
    rw [h]
    exact ⟨fun q => absurd q (nI_pos (by omega)), fun q => absurd q (nI_m1 (by omega))⟩
/-- how many are in the hand hd -/
abbrev hnC (F : Nat → Nat → Int32) (hd : Int32) (n : Nat) : Int32 := fo (fun k c => if F k 3 = hd then c + 1 else c) 0 n
theorem hn_le {F : Nat → Nat → Int32} {n : Nat} (x : EX F n) {hd : Int32} (h0 : hd ≠ 0) (h1 : hd ≠ 1) : ∀ m, m ≤ n → (hnC F hd m = 0 ∧ ∀ i, i < m → ¬ F i 3 = hd) ∨ (hnC F hd m = 1 ∧ ∃ i, i < m ∧ F i 3 = hd) := by
  intro m
  induction m with
  | zero => intro _; exact Or.inl ⟨rfl, fun i hi => absurd hi (Nat.not_lt_zero _)⟩
  | succ m ih =>
    intro hm
    by_cases c : F m 3 = hd
    · have e : hnC F hd (m + 1) = hnC F hd m + 1 := if_pos c
      rcases ih (by omega) with ⟨e1, -⟩ | ⟨e1, i, hi, e2⟩
      · exact Or.inr ⟨by rw [e, e1]; decide, m, Nat.lt_succ_self m, c⟩
      · rcases x.2.1 i m (by omega) (by omega) (by omega) (e2.trans c.symm) with q | q
        · exact absurd (e2.symm.trans q) h0
        · exact absurd (e2.symm.trans q) h1
    · have e : hnC F hd (m + 1) = hnC F hd m := if_neg c
      rw [e]
      rcases ih (by omega) with ⟨e1, h⟩ | ⟨e1, i, hi, e2⟩
      · exact Or.inl ⟨e1, fun i hi => by
          by_cases q : i = m
          · rw [q]; exact c
          · exact h i (by omega)⟩
      · exact Or.inr ⟨e1, i, by omega, e2⟩
theorem hn_one {F : Nat → Nat → Int32} {n : Nat} (x : EX F n) {hd : Int32} (h0 : hd ≠ 0) (h1 : hd ≠ 1) : ¬ 1 < hnC F hd n := by
  rcases hn_le x h0 h1 n (Nat.le_refl _) with ⟨e, -⟩ | ⟨e, -⟩ <;> rw [e] <;> decide
/-- how many places have one -/
abbrev thC (F : Nat → Nat → Int32) (n m : Nat) : Int32 := fo (fun q c => c + (if figAt F n (nI q) < 0 then 0 else 1)) 0 m
theorem fo_plus {g g2 : Nat → Int32} {q0 : Nat} (e : ∀ q, q < 100 → q ≠ q0 → g2 q = g q) (e1 : g2 q0 = g q0 + 1) : ∀ m, m ≤ 100 → fo (fun q c => c + g2 q) 0 m = if q0 < m then fo (fun q c => c + g q) 0 m + 1 else fo (fun q c => c + g q) 0 m := by
  intro m
  induction m with
  | zero => intro _; rw [if_neg (Nat.not_lt_zero _)]; rfl
  | succ m ih =>
    intro hm
    show fo (fun q c => c + g2 q) 0 m + g2 m = if q0 < m + 1 then (fo (fun q c => c + g q) 0 m + g m) + 1 else fo (fun q c => c + g q) 0 m + g m
    rw [ih (by omega)]
    by_cases a : q0 < m
    · rw [if_pos a, if_pos (by omega), e m (by omega) (by omega), Int32.add_assoc, Int32.add_comm 1, ← Int32.add_assoc]
    · rw [if_neg a]
      by_cases b : q0 = m
      · subst b
        rw [if_pos (by omega), e1, ← Int32.add_assoc]
      · rw [if_neg (by omega), e m (by omega) (fun z => b z.symm)]
theorem th_cnt {F : Nat → Nat → Int32} : ∀ n, n < 100 → EX F n → (∀ k, k < n → F k 3 ≠ 0 → ∃ q, q < 10 ∧ F k 4 = nI q) → thC F n 10 = cntF F n := by
  intro n
  induction n with
  | zero =>
    intro _ _ _
    show fo (fun q c => c + (if (-1 : Int32) < 0 then 0 else 1)) 0 10 = 0
    decide
  | succ n ih =>
    intro hn x hp
    have ih2 := ih (by omega) (x.le (by omega)) (fun k hk => hp k (by omega))
    have st : ∀ pl, figAt F (n + 1) pl < 0 ↔ (figAt F n pl < 0 ∧ ¬ (F n 3 ≠ 0 ∧ F n 4 = pl)) := fun pl => by
      rw [at_lt hn, at_neg hn, at_lt (by omega), at_neg (by omega)]
      refine ⟨fun h => ⟨fun i hi => h i (by omega), h n (by omega)⟩, fun h i hi => ?_⟩
      by_cases q : i = n
      · rw [q]; exact h.2
      · exact h.1 i (by omega)
    by_cases c : F n 3 = 0
    · have e : cntF F (n + 1) = cntF F n := if_neg (fun q => q c)
      rw [e, ← ih2]
      refine fo_congr (fun q hq u => ?_)
      have h9 := st (nI q)
      by_cases a : figAt F n (nI q) < 0
      · rw [if_pos a, if_pos (h9.mpr ⟨a, fun z => z.1 c⟩)]
      · rw [if_neg a, if_neg (fun z => a (h9.mp z).1)]
    · have e : cntF F (n + 1) = cntF F n + 1 := if_pos c
      obtain ⟨q0, hq0, e0⟩ := hp n (by omega) c
      have f0 : figAt F n (nI q0) < 0 := by
        rw [at_lt (by omega), at_neg (by omega)]
        exact fun i hi z => x.1 i n (by omega) (by omega) (by omega) z.1 c (z.2.trans e0.symm)
      have h10 := fo_plus (g := fun q => if figAt F n (nI q) < 0 then (0 : Int32) else 1) (g2 := fun q => if figAt F (n + 1) (nI q) < 0 then (0 : Int32) else 1) (q0 := q0) (fun q hq9 hq => by
          show (if figAt F (n + 1) (nI q) < 0 then (0 : Int32) else 1) = if figAt F n (nI q) < 0 then (0 : Int32) else 1
          have h9 := st (nI q)
          by_cases a : figAt F n (nI q) < 0
          · rw [if_pos a, if_pos (h9.mpr ⟨a, fun z => hq ((nI_eq (by omega) (by omega)).mp (e0.symm.trans z.2)).symm⟩)]
          · rw [if_neg a, if_neg (fun z => a (h9.mp z).1)]) (by
          show (if figAt F (n + 1) (nI q0) < 0 then (0 : Int32) else 1) = (if figAt F n (nI q0) < 0 then (0 : Int32) else 1) + 1
          rw [if_pos f0, if_neg (fun z => ((st (nI q0)).mp z).2 ⟨c, e0⟩)]
          decide) 10 (by decide)
      rw [if_pos hq0] at h10
      rw [e, ← ih2]
      exact h10

/-! shadows -/
theorem i_ge {x : Int32} {a n : Nat} (h0 : nI a ≤ x) (h1 : x ≤ nI n) (ha : a < 1000) (hn : n < 1000) : ∃ k, a ≤ k ∧ k ≤ n ∧ x = nI k := by
  obtain ⟨k, hk, e⟩ := i_le (Int32.le_trans (nI_0le a (by omega)) h0) h1 hn
  rw [e] at h0
  exact ⟨k, (nI_leI (by omega) (by omega)).mp h0, hk, e⟩
theorem sh_nat {r : Nat → Int32} {di x : Int32} (h1 : 10 ≤ r 1 ∧ r 1 ≤ 90) (hd : 20 ≤ di ∧ di ≤ 80) (hx : 0 ≤ x ∧ x ≤ 15) : ∃ a v : Nat, r 1 = nI a ∧ shad r di x = nI v ∧ a ≤ v ∧ v ≤ 360 ∧ ¬ di - x = 0 ∧ r 1 * di / (di - x) = nI v := by
  obtain ⟨a, ha1, ha2, ea⟩ := i_ge (a := 10) (n := 90) h1.1 h1.2 (by decide) (by decide)
  obtain ⟨d, hd1, hd2, ed⟩ := i_ge (a := 20) (n := 80) hd.1 hd.2 (by decide) (by decide)
  obtain ⟨y, hy, ey⟩ := i_le (n := 15) hx.1 hx.2 (by decide)
  have es : di - x = nI (d - y) := by rw [ed, ey, pk_sub (by omega)]
  have hm : a * d ≤ 90 * 80 := Nat.mul_le_mul ha2 hd2
  have ev : r 1 * di / (di - x) = nI (a * d / (d - y)) := by rw [es, ea, ed, pk_mul, pk_div (by omega) (by omega) (by omega)]
  refine ⟨a, a * d / (d - y), ea, ?_, ?_, ?_, ?_, ev⟩
  · unfold shad
    rw [if_pos (by rw [es]; exact nI_lt (a := 0) (by omega) (by omega)), ev]
  · rw [Nat.le_div_iff_mul_le (by omega)]
    exact Nat.mul_le_mul_left a (by omega)
  · refine Nat.div_le_of_le_mul ?_
    have h2 : a * d ≤ 90 * d := Nat.mul_le_mul_right d ha2
    omega
  · rw [es]
    exact nI_ne0 (by omega) (by omega)
theorem IV.sh {σ : NS} (hv : IV σ) {k : Nat} (hk : k < σ.nf) : ∃ a v : Nat, σ.F k 1 = nI a ∧ shad (σ.F k) σ.di (σ.F k 5) = nI v ∧ a ≤ v ∧ v ≤ 360 ∧ ¬ σ.di - σ.F k 5 = 0 ∧ σ.F k 1 * σ.di / (σ.di - σ.F k 5) = nI v := by
  obtain ⟨-, h1, -, h3⟩ := hv.2.2.2.1 k hk
  refine sh_nat h1 hv.2.2.2.2.1 ?_
  rcases h3 with ⟨-, -, e⟩ | ⟨-, -, e⟩ | ⟨-, -, e⟩
  · rw [e]; decide
  · rw [e]; decide
  · exact e
theorem sum_nat {σ : NS} (hv : IV σ) : ∀ n, n ≤ σ.nf → ∃ c s : Nat, c ≤ n ∧ s ≤ 360 * c ∧ cntF σ.F n = nI c ∧ sumF σ.F σ.di n = nI s := by
  intro n
  induction n with
  | zero => intro _; exact ⟨0, 0, Nat.le_refl _, Nat.le_refl _, rfl, rfl⟩
  | succ n ih =>
    intro hn
    obtain ⟨c, s, h1, h2, e1, e2⟩ := ih (by omega)
    by_cases q : σ.F n 3 ≠ 0
    · obtain ⟨a, v, -, ev, -, hv9, -⟩ := hv.sh (k := n) (by omega)
      refine ⟨c + 1, s + v, by omega, by omega, ?_, ?_⟩
      · rw [show cntF σ.F (n + 1) = cntF σ.F n + 1 from if_pos q, e1, nI_1]
      · rw [show sumF σ.F σ.di (n + 1) = sumF σ.F σ.di n + shad (σ.F n) σ.di (σ.F n 5) from if_pos q, e2, ev, nI_add]
    · refine ⟨c, s, by omega, h2, ?_, ?_⟩
      · rw [show cntF σ.F (n + 1) = cntF σ.F n from if_neg q, e1]
      · rw [show sumF σ.F σ.di (n + 1) = sumF σ.F σ.di n from if_neg q, e2]
/-! scenes -/
theorem rB_nat {σ : NS} (hv : IV σ) : ∀ k, k ≤ σ.ns → ∃ b : Nat, b ≤ 90 * k ∧ rB σ.S k = nI b := by
  intro k
  induction k with
  | zero => intro _; exact ⟨0, Nat.le_refl _, rfl⟩
  | succ k ih =>
    intro hk
    obtain ⟨b, hb, e⟩ := ih (by omega)
    obtain ⟨z, hz1, hz, ez⟩ := i_ge (a := 5) (n := 90) (hv.2.2.1 k (by omega)).2.2.2.2.2.1 (hv.2.2.1 k (by omega)).2.2.2.2.2.2 (by decide) (by decide)
    exact ⟨b + z, by omega, by show rB σ.S k + σ.S k 3 = _; rw [e, ez, nI_add]⟩
theorem rB_up {σ : NS} (hv : IV σ) : ∀ j k, k + j ≤ σ.ns → rB σ.S k ≤ rB σ.S (k + j) := by
  intro j
  induction j with
  | zero => intro k _; exact Int32.le_refl _
  | succ j ih =>
    intro k hk
    obtain ⟨b, hb, e⟩ := rB_nat hv (k + j) (by omega)
    obtain ⟨z, hz1, hz, ez⟩ := i_ge (a := 5) (n := 90) (hv.2.2.1 (k + j) (by omega)).2.2.2.2.2.1 (hv.2.2.1 (k + j) (by omega)).2.2.2.2.2.2 (by decide) (by decide)
    have hn := hv.1.2.1
    refine Int32.le_trans (ih k (by omega)) ?_
    show rB σ.S (k + j) ≤ rB σ.S (k + j) + σ.S (k + j) 3
    rw [e, ez, nI_add]
    exact nI_le (by omega) (by omega)
/-- the scene that is on, as the law looks for it -/
abbrev onL (σ : NS) (k : Nat) : Int32 := fo (fun i u => if rB σ.S i ≤ σ.mi ∧ σ.mi < rB σ.S i + σ.S i 3 then nI i else u) (-1) k
theorem onL_is {σ : NS} (hv : IV σ) : ∀ k, k ≤ σ.ns → (σ.mi < rB σ.S k → onL σ k = onS σ) ∧ (¬ σ.mi < rB σ.S k → onL σ k = -1) := by
  intro k
  induction k with
  | zero => exact fun _ => ⟨fun q => absurd q (Int32.not_lt.mpr hv.2.2.2.2.2.2.2.1.1), fun _ => rfl⟩
  | succ k ih =>
    intro hk
    obtain ⟨i1, i2⟩ := ih (by omega)
    have hup : rB σ.S k ≤ rB σ.S (k + 1) := rB_up hv 1 k hk
    have e9 : onL σ (k + 1) = if rB σ.S k ≤ σ.mi ∧ σ.mi < rB σ.S (k + 1) then nI k else onL σ k := rfl
    by_cases a : σ.mi < rB σ.S k
    · rw [e9, if_neg (fun q => Int32.not_le.mpr a q.1)]
      exact ⟨fun _ => i1 a, fun q => absurd (Int32.lt_of_lt_of_le a hup) q⟩
    · by_cases b : σ.mi < rB σ.S (k + 1)
      · rw [e9, if_pos ⟨Int32.not_lt.mp a, b⟩]
        refine ⟨fun _ => ?_, fun q => absurd b q⟩
        refine (ff_at (p := fun k => σ.mi < rB σ.S k + σ.S k 3) σ.ns 0 (Nat.zero_le _) (by omega) b (fun i _ hi q => a ?_)).symm
        have h9 := rB_up hv (k - (i + 1)) (i + 1) (by omega)
        rw [show i + 1 + (k - (i + 1)) = k by omega] at h9
        exact Int32.lt_of_lt_of_le q h9
      · rw [e9, if_neg (fun q => b q.2)]
        exact ⟨fun q => absurd q b, fun _ => i2 a⟩
theorem onL_end {σ : NS} (hv : IV σ) : onL σ σ.ns = onS σ := by
  obtain ⟨i1, i2⟩ := onL_is hv σ.ns (Nat.le_refl _)
  by_cases a : σ.mi < rB σ.S σ.ns
  · exact i1 a
  · rw [i2 a]
    refine (ff_no σ.ns 0 (fun i _ hi q => a ?_)).symm
    have h9 := rB_up hv (σ.ns - (i + 1)) (i + 1) (by omega)
    rw [show i + 1 + (σ.ns - (i + 1)) = σ.ns by omega] at h9
    exact Int32.lt_of_lt_of_le q h9
/-- a breach of 0 to 5 -/
abbrev bR (σ : NS) (k : Nat) : Int32 := rBr σ.S (cbS σ) (kfS σ.P σ.np) k
theorem br_in (σ : NS) (k : Nat) : ¬ bR σ k < 0 ∧ bR σ k ≤ 5 := by
  show ¬ rBr σ.S (cbS σ) (kfS σ.P σ.np) k < 0 ∧ rBr σ.S (cbS σ) (kfS σ.P σ.np) k ≤ 5
  unfold rBr bw
  split
  · decide
  · split
    · decide
    · split
      · decide
      · split
        · decide
        · split <;> decide
/-- scenes with a breach, ahead of k -/
abbrev nB (σ : NS) (k : Nat) : Int32 := rN σ.S (cbS σ) (kfS σ.P σ.np) k
theorem nB_s (σ : NS) (k : Nat) : nB σ (k + 1) = nB σ k + (if bR σ k ≤ 0 then 0 else 1) := by
  show (if ¬ bR σ k = 0 then nB σ k + 1 else nB σ k) = _
  by_cases c : bR σ k = 0
  · rw [if_neg (fun q => q c), if_pos (by rw [c]; decide), Int32.add_zero]
  · rw [if_pos c, if_neg (fun q => c ?_)]
    exact Int32.le_antisymm q (Int32.not_lt.mp (br_in σ k).1)
theorem nB_nat {S : Nat → Nat → Int32} {cb : Nat → Int32} {kf : Int32} : ∀ k, k < 100 → ∃ c, c ≤ k ∧ rN S cb kf k = nI c := by
  intro k
  induction k with
  | zero => intro _; exact ⟨0, Nat.le_refl _, rfl⟩
  | succ k ih =>
    intro hk
    obtain ⟨c, hc, e⟩ := ih (by omega)
    by_cases q : ¬ rBr S cb kf k = 0
    · exact ⟨c + 1, by omega, by rw [show rN S cb kf (k + 1) = rN S cb kf k + 1 from if_pos q, e, nI_1]⟩
    · exact ⟨c, by omega, by rw [show rN S cb kf (k + 1) = rN S cb kf k from if_neg q, e]⟩
theorem KN_s (σ : NS) (k : Nat) : KN σ (k + 1) = if holdsP (KN σ k) (σ.S k 5) then KN σ k ||| σ.S k 2 else KN σ k := rfl
theorem KN_up {σ : NS} {k i : Nat} (h : bt (KN σ k) i = true) : bt (KN σ (k + 1)) i = true := by
  rw [KN_s]
  by_cases c : holdsP (KN σ k) (σ.S k 5)
  · rw [if_pos c, b_or, h]; rfl
  · rw [if_neg c]; exact h
theorem KN_te {σ : NS} {k i t : Nat} (ht : t < 31) (e : σ.S k 5 = nI t) (hk : bt (KN σ k) t = true) (hc : bt (σ.S k 2) i = true) : bt (KN σ (k + 1)) i = true := by
  rw [KN_s, if_pos (by rw [e]; exact (holds_bt ht).mpr hk), b_or, hc, Bool.or_true]
theorem KN_new {σ : NS} {k i : Nat} (h1 : bt (KN σ (k + 1)) i = true) (h0 : ¬ bt (KN σ k) i = true) : bt (σ.S k 2) i = true ∧ holdsP (KN σ k) (σ.S k 5) := by
  rw [KN_s] at h1
  by_cases c : holdsP (KN σ k) (σ.S k 5)
  · rw [if_pos c, b_or, Bool.or_eq_true] at h1
    exact ⟨h1.resolve_left h0, c⟩
  · rw [if_neg c] at h1
    exact absurd h1 h0
theorem str_is {σ : NS} (hv : IV σ) : strS σ = if onS σ < 0 then setF σ.F σ.nf else setF σ.F σ.nf &&& (σ.S (iN (onS σ)) 2 ^^^ (-1)) := by
  unfold strS castOn
  rcases on_cases σ with e | ⟨i, hi, e⟩
  · rw [if_pos e, if_pos (by rw [e]; decide)]
    refine b_ext (fun j hj => ?_)
    rw [b_and, b_xor, b_0, b_m1 j hj]
    simp
  · have hn := hv.1.2.1
    rw [if_neg (by rw [e]; exact nI_m1 (by omega)), if_neg (by rw [e]; exact nI_pos (by omega))]
/-! the sound -/
def go_k (m s b : Nat) : Bool := !decide (1 ≤ s) || (!decide (nI b < cyc (nI m)) || (decide (¬ 8 * nI s * ((cyc (nI m) - nI b + 8 * nI s - 1) / (8 * nI s)) + nI b < cyc (nI m)) && (decide (8 * nI s * ((cyc (nI m) - nI b + 8 * nI s - 1) / (8 * nI s) - 1) + nI b < cyc (nI m)) && decide (0 < 8 * nI s))))
theorem go_all : ∀ m, m < 4 → ∀ s, s < 4 → ∀ b, b < 32 → go_k m s b = true := by decide +kernel
theorem go_ok {m s b : Nat} (hm : m < 4) (hs : s < 4) (hs1 : 1 ≤ s) (hb : b < 32) (hc : nI b < cyc (nI m)) :
    ¬ 8 * nI s * ((cyc (nI m) - nI b + 8 * nI s - 1) / (8 * nI s)) + nI b < cyc (nI m) ∧ 8 * nI s * ((cyc (nI m) - nI b + 8 * nI s - 1) / (8 * nI s) - 1) + nI b < cyc (nI m) ∧ 0 < 8 * nI s := by
  have h := go_all m hm s hs b hb
  unfold go_k at h
  rw [decide_eq_true hs1, decide_eq_true hc] at h
  simp only [Bool.not_true, Bool.false_or, Bool.and_eq_true, decide_eq_true_eq] at h
  exact ⟨h.1, h.2.1, h.2.2⟩
theorem cyc_32 : ∀ m, m < 4 → cyc (nI m) ≤ nI 32 := by decide +kernel
/-- the orchestra: silent, or within its bounds -/
theorem orc_is {r : Nat → Int32} (h : OI r) : (r 0 = -1 ∧ r 1 = 0 ∧ r 2 = 0 ∧ r 3 = 0 ∧ ongo r = -1) ∨ (¬ r 0 < 0 ∧ 0 < r 1 ∧ r 1 < 4 ∧ ¬ r 2 < 0 ∧ r 2 < cyc (r 0) ∧ cyc (r 0) ≤ 8 * r 1 * ongo r + r 2 ∧ 8 * r 1 * (ongo r - 1) + r 2 < cyc (r 0)) := by
  rcases h with ⟨h0, h1, h2, h3⟩ | ⟨h0, h1, h2, h3⟩
  · refine Or.inl ⟨h0, h1, h2, h3, ?_⟩
    unfold ongo
    rw [h1, if_neg (by decide)]
  · obtain ⟨m, hm, em⟩ := i_le (n := 3) h0.1 h0.2 (by decide)
    obtain ⟨s, hs1, hs, es⟩ := i_ge (a := 1) (n := 3) h1.1 h1.2 (by decide) (by decide)
    have hb9 : r 2 ≤ nI 32 := Int32.le_of_lt (Int32.lt_of_lt_of_le h2.2 (by rw [em]; exact cyc_32 m (by omega)))
    obtain ⟨b, hb, eb⟩ := i_le (n := 32) h2.1 hb9 (by decide)
    have hb2 : b < 32 := by
      by_cases q : b = 32
      · have h9 := Int32.lt_of_lt_of_le h2.2 (show cyc (r 0) ≤ nI 32 by rw [em]; exact cyc_32 m (by omega))
        rw [eb, q] at h9
        exact absurd h9 (Int32.lt_irrefl)
      · omega
    have h9 := go_ok (m := m) (s := s) (b := b) (by omega) (by omega) hs1 hb2 (by rw [← eb, ← em]; exact h2.2)
    refine Or.inr ⟨Int32.not_lt.mpr h0.1, Int32.lt_of_lt_of_le (by decide) h1.1, Int32.lt_of_le_of_lt h1.2 (by decide), Int32.not_lt.mpr h2.1, h2.2, ?_, ?_⟩
    · unfold ongo
      rw [em, es, eb, if_pos h9.2.2]
      exact Int32.not_lt.mp h9.1
    · unfold ongo
      rw [em, es, eb, if_pos h9.2.2]
      exact h9.2.1
/-! the best exchange -/
/-- so far: none, or one that makes them fewer -/
def BW (n : Nat) (r0 : Int32) (u : Int32 × Int32) : Prop := (u.1 = r0 ∧ u.2 = -1) ∨ (u.1 < r0 ∧ 0 ≤ u.1 ∧ ∃ i j, i < j ∧ j < n ∧ u.2 = 10 * nI i + nI j)
theorem bw_step {S : Nat → Nat → Int32} {cb : Nat → Int32} {kf r0 : Int32} {n i j : Nat} (hn : n < 100) (hi : i < j) (hj : j < n) {u : Int32 × Int32} (h : BW n r0 u) : BW n r0 (bStep S cb kf n i j u) := by
  unfold bStep
  obtain ⟨c, hc, e⟩ := nB_nat (S := fun k => S (sw i j k)) (cb := fun k => cb (sw i j k)) (kf := kf) n hn
  by_cases q : rN (fun k => S (sw i j k)) (fun k => cb (sw i j k)) kf n < u.1
  · rw [if_pos q]
    refine Or.inr ⟨?_, by rw [e]; exact nI_0le c (by omega), i, j, hi, hj, rfl⟩
    rcases h with ⟨e1, -⟩ | ⟨e1, -⟩
    · rw [← e1]; exact q
    · exact Int32.lt_trans q e1
  · rw [if_neg q]
    exact h
theorem bw_in {S : Nat → Nat → Int32} {cb : Nat → Int32} {kf r0 : Int32} {n i : Nat} (hn : n < 100) {u : Int32 × Int32} (h : BW n r0 u) : ∀ m, i + m < n ∨ m = 0 → BW n r0 (bIn S cb kf n i u m) := by
  intro m
  induction m with
  | zero => intro _; exact h
  | succ m ih =>
    intro hm
    exact bw_step hn (by omega) (by omega) (ih (by omega))
theorem bw_out {S : Nat → Nat → Int32} {cb : Nat → Int32} {kf : Int32} {n : Nat} (hn : n < 100) : ∀ k, k ≤ n → BW n (rN S cb kf n) (bOut S cb kf n k) := by
  intro k
  induction k with
  | zero => intro _; exact Or.inl ⟨rfl, rfl⟩
  | succ k ih =>
    intro hk
    exact bw_in hn (ih (by omega)) (n - (k + 1)) (by omega)
theorem ten_ok : ∀ i, i < 10 → ∀ j, j < 10 → (10 * nI i + nI j) / 10 = nI i ∧ (10 * nI i + nI j) - (10 * nI i + nI j) / 10 * 10 = nI j ∧ ¬ 10 * nI i + nI j < 0 := by decide +kernel
theorem best_is {σ : NS} (hv : IV σ) : bsS σ < 0 ∨ (bsS σ / 10 < bsS σ - bsS σ / 10 * 10 ∧ bsS σ - bsS σ / 10 * 10 < nI σ.ns ∧ 0 < nB σ σ.ns) := by
  have hn := hv.1.2.1
  rcases bw_out (S := σ.S) (cb := cbS σ) (kf := kfS σ.P σ.np) (n := σ.ns) (by omega) σ.ns (Nat.le_refl _) with ⟨-, e⟩ | ⟨h1, h2, i, j, hi, hj, e⟩
  · refine Or.inl ?_
    have e : bsS σ = -1 := e
    rw [e]
    decide
  · have e : bsS σ = 10 * nI i + nI j := e
    obtain ⟨t1, t2, -⟩ := ten_ok i (by omega) j (by omega)
    rw [e, t1] at *
    rw [t1] at t2
    rw [t2]
    exact Or.inr ⟨nI_lt hi (by omega), nI_lt hj (by omega), Int32.lt_of_le_of_lt h2 h1⟩
/-! the mean, times how many, less the sum: near nothing -/
def fl_p (c s : Nat) : UInt64 := FP.dmul (if nI c = 0 then FP.dconst0 else FP.ddiv (FP.i2d (nI s)) (FP.i2d (nI c))) (FP.i2d (nI c))
def fl_d (c s : Nat) : UInt64 := FP.dsub (fl_p c s) (FP.i2d (nI s))
def fl_a (c s : Nat) : UInt64 := fl_d c s &&& 0x7fffffffffffffff
def fl_n (x : UInt64) : Bool := decide (x &&& 0x7fffffffffffffff ≤ 0x7ff0000000000000)
theorem fl_y {x : UInt64} (h : fl_n x = true) : vf_n64 x := (of_decide_eq_true h : x &&& 0x7fffffffffffffff ≤ 0x7ff0000000000000)
def fl_k (c s : Nat) : Bool := fl_n (fl_p c s) && (fl_n (fl_d c s) && decide (Op.cmpValue (FP.dcmp (fl_a c s) 4562254508917369340) CmpOp.l ≤ 0))
theorem fl_0 : fl_k 0 0 = true := by decide +kernel
theorem fl_1 : ∀ s, s < 361 → fl_k 1 s = true := by decide +kernel
theorem fl_2 : ∀ s, s < 721 → fl_k 2 s = true := by decide +kernel
theorem fl_3 : ∀ s, s < 1081 → fl_k 3 s = true := by decide +kernel
theorem fl_4 : ∀ s, s < 1441 → fl_k 4 s = true := by decide +kernel
theorem fl_5 : ∀ s, s < 1801 → fl_k 5 s = true := by decide +kernel
theorem fl_ok {c s : Nat} (hc : c < 6) (hs : s ≤ 360 * c) : fl_k c s = true := by
  have h9 : c = 0 ∨ c = 1 ∨ c = 2 ∨ c = 3 ∨ c = 4 ∨ c = 5 := by omega
  rcases h9 with rfl | rfl | rfl | rfl | rfl | rfl
  · have e : s = 0 := by omega
    rw [e]; exact fl_0
  · exact fl_1 s (by omega)
  · exact fl_2 s (by omega)
  · exact fl_3 s (by omega)
  · exact fl_4 s (by omega)
  · exact fl_5 s (by omega)
