/-! THE PLOT'S LAWS: what the class keeps by masks and counts is what the model looks through (the first rows, on bits, out of the kit's laws) -/
def bt (x : Int32) (i : Nat) : Bool := x.toBitVec.getLsbD i
theorem b_ext {x y : Int32} (h : ∀ i, i < 32 → bt x i = bt y i) : x = y := Int32.toBitVec_inj.mp (BitVec.eq_of_getLsbD_eq (fun i hi => h i hi))
theorem b_or (x y : Int32) (i : Nat) : bt (x ||| y) i = (bt x i || bt y i) := by unfold bt; rw [Int32.toBitVec_or, BitVec.getLsbD_or]
theorem b_and (x y : Int32) (i : Nat) : bt (x &&& y) i = (bt x i && bt y i) := by unfold bt; rw [Int32.toBitVec_and, BitVec.getLsbD_and]
theorem b_xor (x y : Int32) (i : Nat) : bt (x ^^^ y) i = (bt x i ^^ bt y i) := by unfold bt; rw [Int32.toBitVec_xor, BitVec.getLsbD_xor]
theorem b_m1 : ∀ i, i < 32 → bt (-1) i = true := by decide +kernel
theorem b_0 (i : Nat) : bt 0 i = false := BitVec.getLsbD_zero
theorem s_l : ∀ n, n < 32 → ((nI n &&& 31).toBitVec.smod 32).toNat = n := by decide +kernel
theorem b_shl (n : Nat) (hn : n < 32) (x : Int32) {i : Nat} (hi : i < 32) : bt (x <<< (nI n &&& 31)) i = (decide (n ≤ i) && bt x (i - n)) := by
  unfold bt
  rw [Int32.toBitVec_shiftLeft]
  show (x.toBitVec <<< ((nI n &&& 31).toBitVec.smod 32).toNat).getLsbD i = _
  rw [s_l n hn, BitVec.getLsbD_shiftLeft]
  rcases Nat.lt_or_ge i n with h | h
  · simp [h, Nat.not_le.mpr h]
  · simp [hi, h, Nat.not_lt.mpr h]
theorem b_sshr (n : Nat) (hn : n < 32) (x : Int32) {i : Nat} (hi : i < 32) : bt (x >>> (nI n &&& 31)) i = if n + i < 32 then bt x (n + i) else bt x 31 := by
  unfold bt
  rw [Int32.toBitVec_shiftRight]
  show (x.toBitVec.sshiftRight ((nI n &&& 31).toBitVec.smod 32).toNat).getLsbD i = _
  rw [s_l n hn, BitVec.getLsbD_sshiftRight, BitVec.msb_eq_getLsbD_last]
  simp [hi]
theorem b_1 : ∀ i, i < 32 → bt 1 i = decide (i = 0) := by decide +kernel
theorem and1 (y : Int32) : y &&& 1 = if bt y 0 = true then 1 else 0 := by
  refine b_ext (fun i hi => ?_)
  rw [b_and, b_1 i hi]
  by_cases q : i = 0
  · subst q
    cases e : bt y 0
    · rw [if_neg (by decide), b_0]; rfl
    · rw [if_pos rfl, b_1 0 hi]; rfl
  · rw [decide_eq_false q, Bool.and_false]
    split
    · rw [b_1 i hi, decide_eq_false q]
    · rw [b_0]
theorem bt_c {x : Int32} {i : Nat} (hi : i < 31) : (x >>> (nI i &&& 31)) &&& 1 = if bt x i = true then 1 else 0 := by
  have e : bt (x >>> (nI i &&& 31)) 0 = bt x i := by rw [b_sshr i (by omega) x (show (0 : Nat) < 32 by decide), if_pos (by omega), Nat.add_zero]
  rw [and1, e]
theorem bt_1 {x : Int32} {i : Nat} (hi : i < 31) : (x >>> (nI i &&& 31)) &&& 1 = 1 ↔ bt x i = true := by
  rw [bt_c hi]
  by_cases c : bt x i = true
  · rw [if_pos c]; exact ⟨fun _ => c, fun _ => rfl⟩
  · rw [if_neg c]; exact ⟨fun q => absurd q (by decide), fun q => absurd q c⟩
theorem bt_0 {x : Int32} {i : Nat} (hi : i < 31) : (x >>> (nI i &&& 31)) &&& 1 = 0 ↔ ¬ bt x i = true := by
  rw [bt_c hi]
  by_cases c : bt x i = true
  · rw [if_pos c]; exact ⟨fun q => absurd q (by decide), fun q => absurd c q⟩
  · rw [if_neg c]; exact ⟨fun _ => c, fun _ => rfl⟩
theorem nI_0le (i : Nat) (hi : i < 2 ^ 31) : 0 ≤ nI i := show nI 0 ≤ nI i from nI_le (Nat.zero_le _) hi
theorem holds_bt {x : Int32} {i : Nat} (hi : i < 31) : holdsP x (nI i) ↔ bt x i = true := ⟨fun q => (bt_1 hi).mp q.2.2, fun q => ⟨nI_0le i (by omega), show nI i < nI 31 from nI_lt hi (by decide), (bt_1 hi).mpr q⟩⟩
theorem holds_m1 {x : Int32} : ¬ holdsP x (-1) := fun q => absurd q.1 (by decide)
theorem cast_ix {ca x : Int32} {n : Nat} (hn : n ≤ 8) (h0 : 0 < ca) (h1 : ca < (1 : Int32) <<< (nI n &&& 31)) (hh : holdsP ca x) : ∃ i, i < n ∧ x = nI i := by
  obtain ⟨e, hlt⟩ := nI_iN (n := 31) hh.1 hh.2.1 (by decide)
  by_cases q : iN x < n
  · exact ⟨iN x, q, e⟩
  · have h2 : holdsP ca (nI (iN x)) := by rw [← e]; exact hh
    exact absurd h2 (cast_lt hn h0 h1 (Nat.not_lt.mp q) hlt)
theorem cast_bt {ca : Int32} {n i : Nat} (hn : n ≤ 8) (h0 : 0 < ca) (h1 : ca < (1 : Int32) <<< (nI n &&& 31)) (hi : n ≤ i) : bt ca i = false := by
  rw [pw2 n (by omega)] at h1
  have hp : 2 ^ n ≤ 2 ^ 8 := Nat.pow_le_pow_right (by decide) hn
  rcases pk_ix ca (n := 2 ^ n) (by omega) with h | h | ⟨q, hq, e⟩
  · exact (Int32.lt_irrefl (Int32.lt_trans h0 h)).elim
  · exact absurd h (Int32.not_le.mpr h1)
  · unfold bt
    rw [e]
    show (nI q).toBitVec.toNat.testBit i = false
    rw [pk_tn (by omega)]
    exact Nat.testBit_lt_two_pow (Nat.lt_of_lt_of_le hq (Nat.pow_le_pow_right (by decide) hi))
theorem b_one {m i : Nat} (hm : m < 32) (hi : i < 32) : bt ((1 : Int32) <<< (nI m &&& 31)) i = decide (i = m) := by
  rw [b_shl m hm 1 hi, b_1 (i - m) (by omega)]
  by_cases q : i = m
  · rw [q, decide_eq_true (Nat.le_refl m), decide_eq_true (by omega), decide_eq_true rfl]; rfl
  · rw [decide_eq_false q]
    by_cases z : m ≤ i
    · rw [decide_eq_false (by omega : ¬ i - m = 0), Bool.and_false]
    · rw [decide_eq_false z, Bool.false_and]
/-- scenes that can be told -/
def SV (np : Nat) (F : Nat → Nat → Int32) (n : Nat) : Prop := ∀ k, k < n → (0 < F k 2 ∧ F k 2 < (1 : Int32) <<< (nI np &&& 31)) ∧ (F k 4 = -1 ∨ holdsP (F k 2) (F k 4)) ∧ (F k 5 = -1 ∨ holdsP (F k 2) (F k 5))
theorem IV.sv {σ : NS} (hv : IV σ) : SV σ.np σ.S σ.ns := fun k hk => ⟨(hv.2.2.1 k hk).1, (hv.2.2.1 k hk).2.1, (hv.2.2.1 k hk).2.2.1⟩
theorem SV.perm {np n : Nat} {F : Nat → Nat → Int32} (h : SV np F n) {s : Nat → Nat} (hs : ∀ k, k < n → s k < n) : SV np (fun k => F (s k)) n := fun k hk => h (s k) (hs k hk)
theorem SV.di {np n : Nat} {F : Nat → Nat → Int32} (hn : np ≤ 8) (h : SV np F n) {k : Nat} (hk : k < n) : F k 4 = -1 ∨ ∃ i, i < np ∧ F k 4 = nI i := (h k hk).2.1.imp id (fun q => cast_ix hn (h k hk).1.1 (h k hk).1.2 q)
theorem SV.te {np n : Nat} {F : Nat → Nat → Int32} (hn : np ≤ 8) (h : SV np F n) {k : Nat} (hk : k < n) : F k 5 = -1 ∨ ∃ i, i < np ∧ F k 5 = nI i := (h k hk).2.2.imp id (fun q => cast_ix hn (h k hk).1.1 (h k hk).1.2 q)
/-- who knows -/
theorem te_iff {np : Nat} {x kn : Int32} (hn : np ≤ 8) (h : x = -1 ∨ ∃ i, i < np ∧ x = nI i) : (¬ x = -1 ∧ (kn >>> (x &&& 31)) &&& 1 = 1) ↔ holdsP kn x := by
  rcases h with h | ⟨i, hi, h⟩
  · rw [h]; exact ⟨fun q => absurd rfl q.1, fun q => absurd q holds_m1⟩
  · have h9 : ¬ x = -1 := fun q => by
      have h0 := nI_0le i (by omega)
      rw [← h, q] at h0
      exact absurd h0 (by decide)
    rw [h] at h9 ⊢
    exact ⟨fun q => (holds_bt (by omega)).mpr ((bt_1 (by omega)).mp q.2), fun q => ⟨h9, q.2.2⟩⟩
theorem te_iff0 {np : Nat} {x kn : Int32} (hn : np ≤ 8) (h : x = -1 ∨ ∃ i, i < np ∧ x = nI i) : (¬ x = -1 ∧ (kn >>> (x &&& 31)) &&& 1 = 0) ↔ (¬ x = -1 ∧ ¬ holdsP kn x) := by
  rcases h with h | ⟨i, hi, h⟩
  · exact ⟨fun q => absurd h q.1, fun q => absurd h q.1⟩
  · rw [h]
    exact ⟨fun q => ⟨q.1, fun z => (bt_0 (by omega)).mp q.2 ((holds_bt (by omega)).mp z)⟩, fun q => ⟨q.1, (bt_0 (by omega)).mpr (fun z => q.2 ((holds_bt (by omega)).mpr z))⟩⟩
theorem mK_eq {np n : Nat} {F : Nat → Nat → Int32} {kf : Int32} (hn : np ≤ 8) (h : SV np F n) : ∀ k, k ≤ n → mK F kf k = rK F kf k := by
  intro k
  induction k with
  | zero => intro _; rfl
  | succ k ih =>
    intro hk
    show (if ¬ F k 5 = -1 ∧ (mK F kf k >>> (F k 5 &&& 31)) &&& 1 = 1 then mK F kf k ||| F k 2 else mK F kf k) = if holdsP (rK F kf k) (F k 5) then rK F kf k ||| F k 2 else rK F kf k
    rw [ih (by omega)]
    have e := te_iff (kn := rK F kf k) hn (h.te hn (k := k) (by omega))
    by_cases c : holdsP (rK F kf k) (F k 5)
    · rw [if_pos (e.mpr c), if_pos c]
    · rw [if_neg (fun q => c (e.mp q)), if_neg c]
/-- who is dead -/
theorem dead_bt {np n : Nat} {S : Nat → Nat → Int32} {yr : Int32} (hn : np ≤ 8) (h : SV np S n) {i : Nat} (hi : i < 31) : ∀ k, k ≤ n → (bt (deadS S yr k) i = true ↔ ∃ j, j < k ∧ (S j 4 = nI i ∧ S j 0 ≤ yr)) := by
  intro k
  induction k with
  | zero => intro _; exact ⟨fun q => (by rw [show deadS S yr 0 = 0 from rfl, b_0] at q; cases q), fun ⟨j, q, _⟩ => absurd q (Nat.not_lt_zero _)⟩
  | succ k ih =>
    intro hk
    have e : deadS S yr (k + 1) = if ¬ S k 4 = -1 ∧ S k 0 ≤ yr then deadS S yr k ||| ((1 : Int32) <<< (S k 4 &&& 31)) else deadS S yr k := rfl
    have ih := ih (by omega)
    rw [e]
    have hd := h.di hn (k := k) (by omega)
    by_cases c : ¬ S k 4 = -1 ∧ S k 0 ≤ yr
    · obtain ⟨m, hm, em⟩ := hd.resolve_left c.1
      rw [if_pos c, b_or, em, b_one (by omega) (by omega), Bool.or_eq_true, ih, decide_eq_true_eq]
      constructor
      · rintro (⟨j, hj, q⟩ | q)
        · exact ⟨j, by omega, q⟩
        · exact ⟨k, by omega, by rw [em, q], c.2⟩
      · rintro ⟨j, hj, q⟩
        rcases Nat.lt_or_eq_of_le (Nat.le_of_lt_succ hj) with z | z
        · exact Or.inl ⟨j, z, q⟩
        · refine Or.inr ?_
          rw [z, em] at q
          exact ((nI_eq (by omega) (by omega)).mp q.1).symm
    · rw [if_neg c, ih]
      constructor
      · rintro ⟨j, hj, q⟩; exact ⟨j, by omega, q⟩
      · rintro ⟨j, hj, q⟩
        rcases Nat.lt_or_eq_of_le (Nat.le_of_lt_succ hj) with z | z
        · exact ⟨j, z, q⟩
        · refine absurd ⟨fun z9 => ?_, by rw [← z]; exact q.2⟩ c
          have h0 := nI_0le i (by omega)
          rw [← q.1, z, z9] at h0
          exact absurd h0 (by decide)
theorem deadP_iff {F : Nat → Nat → Int32} {k : Nat} {x : Int32} : deadP F k x ↔ ∃ j, j < k ∧ (F j 4 = x ∧ F j 0 ≤ F k 0) := by
  constructor
  · intro q
    refine Decidable.byContradiction (fun z => ?_)
    exact deadP_n (fun j hj y => z ⟨j, hj, y⟩) q
  · rintro ⟨j, hj, q⟩
    exact deadP_y hj q
abbrev livP (P : Nat → Nat → Int32) (yr : Int32) (i : Nat) : Prop := P i 3 ≤ yr ∧ yr ≤ P i 4
theorem bcS_1 {P : Nat → Nat → Int32} {yr ca di : Int32} : ∀ j k u, u = 0 ∨ u = 2 → (bcS P yr ca di j k u = 1 ↔ ∃ i, k ≤ i ∧ i < k + j ∧ holdsP ca (nI i) ∧ ¬ livP P yr i) := by
  intro j
  induction j with
  | zero =>
    intro k u hu
    refine ⟨fun q => ?_, fun ⟨i, h1, h2, _⟩ => absurd h2 (by omega)⟩
    have q9 : u = 1 := q
    rcases hu with e | e <;> (rw [e] at q9; exact absurd q9 (by decide))
  | succ j ih =>
    intro k u hu
    have e : bcS P yr ca di (j + 1) k u = if holdsP ca (nI k) ∧ ¬ (P k 3 ≤ yr ∧ yr ≤ P k 4) then 1 else bcS P yr ca di j (k + 1) (if nI k = di ∧ ¬ P k 4 = yr then 2 else u) := rfl
    rw [e]
    by_cases c : holdsP ca (nI k) ∧ ¬ (P k 3 ≤ yr ∧ yr ≤ P k 4)
    · rw [if_pos c]
      exact ⟨fun _ => ⟨k, Nat.le_refl _, by omega, c.1, c.2⟩, fun _ => rfl⟩
    · rw [if_neg c, ih (k + 1) _ (by
        split
        · exact Or.inr rfl
        · exact hu)]
      constructor
      · rintro ⟨i, h1, h2, h3⟩; exact ⟨i, by omega, by omega, h3⟩
      · rintro ⟨i, h1, h2, h3⟩
        refine ⟨i, ?_, by omega, h3⟩
        rcases Nat.lt_or_eq_of_le h1 with z | z
        · exact z
        · exact absurd (by rw [z]; exact h3) c
theorem bcS_2 {P : Nat → Nat → Int32} {yr ca di : Int32} : ∀ j k u, u = 0 ∨ u = 2 → (∀ i, k ≤ i → i < k + j → ¬ (holdsP ca (nI i) ∧ ¬ livP P yr i)) → (bcS P yr ca di j k u = 0 ∨ bcS P yr ca di j k u = 2) ∧ (bcS P yr ca di j k u = 2 ↔ (u = 2 ∨ ∃ i, k ≤ i ∧ i < k + j ∧ nI i = di ∧ ¬ P i 4 = yr)) := by
  intro j
  induction j with
  | zero => exact fun k u hu _ => ⟨hu, ⟨fun q => Or.inl q, fun q => q.elim id (fun ⟨i, h1, h2, _⟩ => absurd h2 (by omega))⟩⟩
  | succ j ih =>
    intro k u hu hb
    have e : bcS P yr ca di (j + 1) k u = if holdsP ca (nI k) ∧ ¬ (P k 3 ≤ yr ∧ yr ≤ P k 4) then 1 else bcS P yr ca di j (k + 1) (if nI k = di ∧ ¬ P k 4 = yr then 2 else u) := rfl
    rw [e, if_neg (hb k (Nat.le_refl _) (by omega))]
    by_cases c : nI k = di ∧ ¬ P k 4 = yr
    · rw [if_pos c]
      obtain ⟨i1, i2⟩ := ih (k + 1) 2 (Or.inr rfl) (fun i h1 h2 => hb i (by omega) (by omega))
      exact ⟨i1, ⟨fun _ => Or.inr ⟨k, Nat.le_refl _, by omega, c⟩, fun _ => i2.mpr (Or.inl rfl)⟩⟩
    · rw [if_neg c]
      obtain ⟨i1, i2⟩ := ih (k + 1) u hu (fun i h1 h2 => hb i (by omega) (by omega))
      refine ⟨i1, i2.trans ⟨fun q => q.imp id (fun ⟨i, h1, h2, h3⟩ => ⟨i, by omega, by omega, h3⟩), fun q => q.imp id (fun ⟨i, h1, h2, h3⟩ => ⟨i, ?_, by omega, h3⟩)⟩⟩
      rcases Nat.lt_or_eq_of_le h1 with z | z
      · exact z
      · exact absurd (by rw [z]; exact h3) c
/-- the breach -/
def mcb (P : Nat → Nat → Int32) (np : Nat) (F : Nat → Nat → Int32) : Nat → Int32 := fun k => bcS P (F k 0) (F k 2) (F k 4) np 0 0
theorem okP_iff {P : Nat → Nat → Int32} {np : Nat} {F : Nat → Nat → Int32} {n k : Nat} (hn : np ≤ 8) (h : SV np F n) (hk : k < n) : okP P np F k ↔ ¬ (mcb P np F k = 1 ∨ ¬ (F k 2 &&& deadS F (F k 0) k) = 0) := by
  have h1 : mcb P np F k = 1 ↔ ∃ i, i < np ∧ holdsP (F k 2) (nI i) ∧ ¬ livP P (F k 0) i := by
    unfold mcb
    rw [bcS_1 np 0 0 (Or.inl rfl)]
    exact ⟨fun ⟨i, a, b, c⟩ => ⟨i, by omega, c⟩, fun ⟨i, b, c⟩ => ⟨i, Nat.zero_le _, by omega, c⟩⟩
  have h2 : ¬ (F k 2 &&& deadS F (F k 0) k) = 0 ↔ ∃ i, i < np ∧ bt (F k 2) i = true ∧ deadP F k (nI i) := by
    constructor
    · intro q
      refine Decidable.byContradiction (fun z => q (b_ext (fun i hi => ?_)))
      rw [b_and, b_0]
      by_cases c : i < np
      · cases e1 : bt (F k 2) i
        · rfl
        · cases e2 : bt (deadS F (F k 0) k) i
          · rfl
          · exact absurd ⟨i, c, e1, deadP_iff.mpr ((dead_bt hn h (by omega) k (by omega)).mp e2)⟩ z
      · rw [cast_bt hn (h k hk).1.1 (h k hk).1.2 (Nat.not_lt.mp c), Bool.false_and]
    · rintro ⟨i, hi, q1, q2⟩ z
      have e : bt (F k 2 &&& deadS F (F k 0) k) i = true := by rw [b_and, q1, (dead_bt hn h (by omega) k (by omega)).mpr (deadP_iff.mp q2)]; rfl
      rw [z, b_0] at e
      cases e
  have h3 : okP P np F k ↔ ∀ i, i < np → ¬ badP P F k i := decide_eq_true_iff
  rw [h3, h1, h2]
  constructor
  · rintro q (⟨i, hi, a, b⟩ | ⟨i, hi, a, b⟩)
    · refine q i hi ⟨a.2.2, ?_⟩
      by_cases c : P i 3 ≤ F k 0
      · exact Or.inr (Or.inl (Int32.not_le.mp (fun z => b ⟨c, z⟩)))
      · exact Or.inl (Int32.not_le.mp c)
    · exact q i hi ⟨(bt_1 (by omega)).mpr a, Or.inr (Or.inr b)⟩
  · rintro q i hi ⟨a, b⟩
    rcases b with b | b | b
    · exact q (Or.inl ⟨i, hi, (holds_bt (by omega)).mpr ((bt_1 (by omega)).mp a), fun z => Int32.not_le.mpr b z.1⟩)
    · exact q (Or.inl ⟨i, hi, (holds_bt (by omega)).mpr ((bt_1 (by omega)).mp a), fun z => Int32.not_le.mpr b z.2⟩)
    · exact q (Or.inr ⟨i, hi, (bt_1 (by omega)).mp a, b⟩)
theorem rBr_eq {P : Nat → Nat → Int32} {np : Nat} {F : Nat → Nat → Int32} {n k : Nat} {kf : Int32} (hn : np ≤ 8) (h : SV np F n) (hk : k < n) : rBr F (mcb P np F) kf k = mB P np F k (rB F k) (mK F kf k) := by
  rw [mK_eq hn h k (by omega)]
  have ho := okP_iff (P := P) hn h hk
  unfold rBr bw mB
  by_cases c1 : mcb P np F k = 1 ∨ ¬ (F k 2 &&& deadS F (F k 0) k) = 0
  · rw [if_pos c1, if_pos (fun q => ho.mp q c1)]
  · rw [if_neg c1, if_neg (show ¬ ¬ okP P np F k from fun q => q (ho.mpr c1))]
    have hb : ∀ i, 0 ≤ i → i < 0 + np → ¬ (holdsP (F k 2) (nI i) ∧ ¬ livP P (F k 0) i) := fun i _ hi q => c1 (Or.inl ((bcS_1 np 0 0 (Or.inl rfl)).mpr ⟨i, Nat.zero_le _, hi, q⟩))
    have h2 : mcb P np F k = 2 ↔ (¬ F k 4 = -1 ∧ ¬ P (iN (F k 4)) 4 = F k 0) := by
      refine (bcS_2 np 0 0 (Or.inl rfl) hb).2.trans ?_
      constructor
      · rintro (q | ⟨i, _, hi, a, b⟩)
        · exact absurd q (by decide)
        · rw [← a, iN_nI (by omega)]
          refine ⟨fun z => ?_, b⟩
          have h0 := nI_0le i (by omega)
          rw [z] at h0
          exact absurd h0 (by decide)
      · rintro ⟨a, b⟩
        obtain ⟨i, hi, e⟩ := (h.di hn hk).resolve_left a
        rw [e, iN_nI (by omega)] at b
        exact Or.inr ⟨i, Nat.zero_le _, by omega, e.symm, b⟩
    by_cases c2 : mcb P np F k = 2
    · rw [if_pos c2, if_pos (h2.mp c2)]
    · rw [if_neg c2, if_neg (fun q => c2 (h2.mpr q))]
      have h3 := te_iff0 (kn := rK F kf k) hn (h.te hn hk)
      by_cases c3 : ¬ F k 5 = -1 ∧ ¬ holdsP (rK F kf k) (F k 5)
      · rw [if_pos c3, if_pos (h3.mpr c3)]
      · rw [if_neg c3, if_neg (fun q => c3 (h3.mp q))]
        by_cases c4 : partS (rB F k) + 1 < F k 1
        · rw [if_pos c4, if_pos (show ¬ F k 1 ≤ (if rB F k / 180 < 2 then rB F k / 180 else 2) + 1 from Int32.not_le.mpr c4)]
        · rw [if_neg c4, if_neg (fun q : ¬ F k 1 ≤ (if rB F k / 180 < 2 then rB F k / 180 else 2) + 1 => c4 (Int32.not_le.mp q))]
          by_cases c5 : 540 < rB F k + F k 3
          · rw [if_pos c5, if_pos (Int32.not_le.mpr c5)]
          · rw [if_neg c5, if_neg (fun q => c5 (Int32.not_le.mp q))]
theorem mB_pos {P : Nat → Nat → Int32} {np : Nat} {F : Nat → Nat → Int32} {k : Nat} {a kn : Int32} : 0 < mB P np F k a kn ↔ ¬ mB P np F k a kn = 0 := by
  unfold mB
  repeat' split
  all_goals decide
theorem mN_eq {P : Nat → Nat → Int32} {np : Nat} {F : Nat → Nat → Int32} {n : Nat} {kf : Int32} (hn : np ≤ 8) (h : SV np F n) : mN P np F kf n = rN F (mcb P np F) kf n := by
  unfold mN rN
  refine fo_congr (fun i hi u => ?_)
  have e := rBr_eq (P := P) (kf := kf) hn h hi
  by_cases c : 0 < mB P np F i (rB F i) (mK F kf i)
  · rw [if_pos c, if_pos (by rw [e]; exact mB_pos.mp c)]
  · rw [if_neg c, if_neg (by rw [e]; exact fun q => c (mB_pos.mpr q))]
theorem cbS_mcb (σ : NS) : cbS σ = mcb σ.P σ.np σ.S := rfl
/-- told scenes, asked -/
theorem svl_eq {σ : NS} (hv : IV σ) {k : Nat} (hk : k < σ.ns) : rX σ.S (cbS σ) (kfS σ.P σ.np) k 1 = rB σ.S k ∧ rX σ.S (cbS σ) (kfS σ.P σ.np) k 2 = mB σ.P σ.np σ.S k (rB σ.S k) (mK σ.S (kfS σ.P σ.np) k) ∧ rX σ.S (cbS σ) (kfS σ.P σ.np) k 3 = mK σ.S (kfS σ.P σ.np) (k + 1) :=
  ⟨rfl, rBr_eq hv.1.1 hv.sv hk, (mK_eq hv.1.1 hv.sv (k + 1) (by omega)).symm⟩
