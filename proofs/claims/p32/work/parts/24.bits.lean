/-! THE PLOT'S LAWS: what the class keeps by masks and counts is what the model looks through (the first rows, on bits, out of the kit's laws) -/
def bt (x : Int32) (i : Nat) : Bool := x.toBitVec.getLsbD i
theorem b_ext {x y : Int32} (h : ∀ i, i < 32 → bt x i = bt y i) : x = y := Int32.toBitVec_inj.mp (BitVec.eq_of_getLsbD_eq (fun i hi => h i hi))
theorem b_or (x y : Int32) (i : Nat) : bt (x ||| y) i = (bt x i || bt y i) := by unfold bt; rw [Int32.toBitVec_or, BitVec.getLsbD_or]
theorem b_and (x y : Int32) (i : Nat) : bt (x &&& y) i = (bt x i && bt y i) := by unfold bt; rw [Int32.toBitVec_and, BitVec.getLsbD_and]
theorem b_xor (x y : Int32) (i : Nat) : bt (x ^^^ y) i = (bt x i ^^ bt y i) := by unfold bt; rw [Int32.toBitVec_xor, BitVec.getLsbD_xor]
theorem b_m1 : ∀ i, i < 32 → bt (-1) i = true := by decide +kernel
theorem b_0 (i : Nat) : bt 0 i = false := BitVec.getLsbD_zero
theorem s_l : ∀ n, n < 32 → ((nI n &&& 31).toBitVec.smod 32).toNat = n := by decide +kernel
theorem b_shl (n : Nat) (hn : n < 32) (x : Int32) {i : Nat} (hi : i < 32) : bt (x <<< (nI n &&& 31)) i = (decide (n ≤ i) && bt x (i - n)) := by
  unfold bt
  rw [Int32.toBitVec_shiftLeft]
  show (x.toBitVec <<< ((nI n &&& 31).toBitVec.smod 32).toNat).getLsbD i = _
  rw [s_l n hn, BitVec.getLsbD_shiftLeft]
  rcases Nat.lt_or_ge i n with h | h
  · simp [h, Nat.not_le.mpr h]
  · simp [hi, h, Nat.not_lt.mpr h]
theorem b_sshr (n : Nat) (hn : n < 32) (x : Int32) {i : Nat} (hi : i < 32) : bt (x >>> (nI n &&& 31)) i = if n + i < 32 then bt x (n + i) else bt x 31 := by
  unfold bt
  rw [Int32.toBitVec_shiftRight]
  show (x.toBitVec.sshiftRight ((nI n &&& 31).toBitVec.smod 32).toNat).getLsbD i = _
  rw [s_l n hn, BitVec.getLsbD_sshiftRight, BitVec.msb_eq_getLsbD_last]
  simp [hi]
theorem b_1 : ∀ i, i < 32 → bt 1 i = decide (i = 0) := by decide +kernel
theorem and1 (y : Int32) : y &&& 1 = if bt y 0 = true then 1 else 0 := by
  refine b_ext (fun i hi => ?_)
  rw [b_and, b_1 i hi]
  by_cases q : i = 0
  · subst q
    cases e : bt y 0
    · rw [if_neg (by decide), b_0]; rfl
    · rw [if_pos rfl, b_1 0 hi]; rfl
  · rw [decide_eq_false q, Bool.and_false]
    split
    · rw [b_1 i hi, decide_eq_false q]
    · rw [b_0]
theorem bt_c {x : Int32} {i : Nat} (hi : i < 31) : (x >>> (nI i &&& 31)) &&& 1 = if bt x i = true then 1 else 0 := by
  have e : bt (x >>> (nI i &&& 31)) 0 = bt x i := by rw [b_sshr i (by omega) x (show (0 : Nat) < 32 by decide), if_pos (by omega), Nat.add_zero]
  rw [and1, e]
theorem bt_1 {x : Int32} {i : Nat} (hi : i < 31) : (x >>> (nI i &&& 31)) &&& 1 = 1 ↔ bt x i = true := by
  rw [bt_c hi]
  by_cases c : bt x i = true
  · rw [if_pos c]; exact ⟨fun _ => c, fun _ => rfl⟩
  · rw [if_neg c]; exact ⟨fun q => absurd q (by decide), fun q => absurd q c⟩
theorem bt_0 {x : Int32} {i : Nat} (hi : i < 31) : (x >>> (nI i &&& 31)) &&& 1 = 0 ↔ ¬ bt x i = true := by
  rw [bt_c hi]
  by_cases c : bt x i = true
  · rw [if_pos c]; exact ⟨fun q => absurd q (by decide), fun q => absurd c q⟩
  · rw [if_neg c]; exact ⟨fun _ => c, fun _ => rfl⟩
theorem nI_0le (i : Nat) (hi : i < 2 ^ 31) : 0 ≤ nI i := show nI 0 ≤ nI i from nI_le (Nat.zero_le _) hi
theorem holds_bt {x : Int32} {i : Nat} (hi : i < 31) : holdsP x (nI i) ↔ bt x i = true := ⟨fun q => (bt_1 hi).mp q.2.2, fun q => ⟨nI_0le i (by omega), show nI i < nI 31 from nI_lt hi (by decide), (bt_1 hi).mpr q⟩⟩
theorem holds_m1 {x : Int32} : ¬ holdsP x (-1) := fun q => absurd q.1 (by decide)
theorem cast_ix {ca x : Int32} {n : Nat} (hn : n ≤ 8) (h0 : 0 < ca) (h1 : ca < (1 : Int32) <<< (nI n &&& 31)) (hh : holdsP ca x) : ∃ i, i < n ∧ x = nI i := by
  obtain ⟨e, hlt⟩ := nI_iN (n := 31) hh.1 hh.2.1 (by decide)
  by_cases q : iN x < n
  · exact ⟨iN x, q, e⟩
  · have h2 : holdsP ca (nI (iN x)) := by rw [← e]; exact hh
    exact absurd h2 (cast_lt hn h0 h1 (Nat.not_lt.mp q) hlt)
theorem cast_bt {ca : Int32} {n i : Nat} (hn : n ≤ 8) (h0 : 0 < ca) (h1 : ca < (1 : Int32) <<< (nI n &&& 31)) (hi : n ≤ i) : bt ca i = false := by
  rw [pw2 n (by omega)] at h1
  have hp : 2 ^ n ≤ 2 ^ 8 := Nat.pow_le_pow_right (by decide) hn
  rcases pk_ix ca (n := 2 ^ n) (by omega) with h | h | ⟨q, hq, e⟩
  · exact (Int32.lt_irrefl (Int32.lt_trans h0 h)).elim
  · exact absurd h (Int32.not_le.mpr h1)
  · unfold bt
    rw [e]
    show (nI q).toBitVec.toNat.testBit i = false
    rw [pk_tn (by omega)]
    exact Nat.testBit_lt_two_pow (Nat.lt_of_lt_of_le hq (Nat.pow_le_pow_right (by decide) hi))
theorem b_one {m i : Nat} (hm : m < 32) (hi : i < 32) : bt ((1 : Int32) <<< (nI m &&& 31)) i = decide (i = m) := by
  rw [b_shl m hm 1 hi, b_1 (i - m) (by omega)]
  by_cases q : i = m
  · rw [q, decide_eq_true (Nat.le_refl m), decide_eq_true (by omega), decide_eq_true rfl]; rfl
  · rw [decide_eq_false q]
    by_cases z : m ≤ i
    · rw [decide_eq_false (by omega : ¬ i - m = 0), Bool.and_false]
    · rw [decide_eq_false z, Bool.false_and]
/-- scenes that can be told -/
def SV (np : Nat) (F : Nat → Nat → Int32) (n : Nat) : Prop := ∀ k, k < n → (0 < F k 2 ∧ F k 2 < (1 : Int32) <<< (nI np &&& 31)) ∧ (F k 4 = -1 ∨ holdsP (F k 2) (F k 4)) ∧ (F k 5 = -1 ∨ holdsP (F k 2) (F k 5))
theorem IV.sv {σ : NS} (hv : IV σ) : SV σ.np σ.S σ.ns := fun k hk => ⟨(hv.2.2.1 k hk).1, (hv.2.2.1 k hk).2.1, (hv.2.2.1 k hk).2.2.1⟩
theorem SV.perm {np n : Nat} {F : Nat → Nat → Int32} (h : SV np F n) {s : Nat → Nat} (hs : ∀ k, k < n → s k < n) : SV np (fun k => F (s k)) n := fun k hk => h (s k) (hs k hk)
theorem SV.di {np n : Nat} {F : Nat → Nat → Int32} (hn : np ≤ 8) (h : SV np F n) {k : Nat} (hk : k < n) : F k 4 = -1 ∨ ∃ i, i < np ∧ F k 4 = nI i := (h k hk).2.1.imp id (fun q => cast_ix hn (h k hk).1.1 (h k hk).1.2 q)
theorem SV.te {np n : Nat} {F : Nat → Nat → Int32} (hn : np ≤ 8) (h : SV np F n) {k : Nat} (hk : k < n) : F k 5 = -1 ∨ ∃ i, i < np ∧ F k 5 = nI i := (h k hk).2.2.imp id (fun q => cast_ix hn (h k hk).1.1 (h k hk).1.2 q)
