/-! STEP BY STEP: what each call does to the night in numbers -/
def LQ (σ : NS) : Prop := IV σ ∧ EX σ.F σ.nf ∧ σ.nf = 5 ∧ 2 ≤ σ.np
theorem EX.cong {F F2 : Nat → Nat → Int32} {n : Nat} (x : EX F n) (h : ∀ i, i < n → F2 i 3 = F i 3 ∧ F2 i 4 = F i 4) : EX F2 n := by
  refine ⟨fun i j hi hj hn a b => ?_, fun i j hi hj hn e => ?_, fun i hi => ?_⟩
  · rw [(h i hi).1] at a
    rw [(h j hj).1] at b
    rw [(h i hi).2, (h j hj).2]
    exact x.1 i j hi hj hn a b
  · rw [(h i hi).1, (h j hj).1] at e
    rw [(h i hi).1]
    exact x.2.1 i j hi hj hn e
  · rw [(h i hi).1, (h i hi).2]
    exact x.2.2 i hi
theorem EX.up {F : Nat → Nat → Int32} {n f : Nat} (x : EX F n) {r : Nat → Int32} (p1 : r 3 ≠ 0 → ∀ j, j < n → j ≠ f → F j 3 ≠ 0 → F j 4 ≠ r 4) (p2 : ∀ j, j < n → j ≠ f → F j 3 = r 3 → r 3 = 0 ∨ r 3 = 1) (p3 : (r 3 = 2 → r 4 ≤ 5) ∧ (r 3 = 3 → 4 ≤ r 4)) : EX (upF F f r) n := by
  have e1 : upF F f r f = r := if_pos rfl
  have e2 : ∀ j, j ≠ f → upF F f r j = F j := fun j q => if_neg q
  refine ⟨fun i j hi hj hn a b => ?_, fun i j hi hj hn e => ?_, fun i hi => ?_⟩
  · by_cases ci : i = f
    · have cj : j ≠ f := fun q => hn (ci.trans q.symm)
      rw [ci, e1] at a ⊢
      rw [e2 j cj] at b ⊢
      exact (p1 a j hj cj b).symm
    · by_cases cj : j = f
      · rw [cj, e1] at b ⊢
        rw [e2 i ci] at a ⊢
        exact p1 b i hi ci a
      · rw [e2 i ci] at a ⊢
        rw [e2 j cj] at b ⊢
        exact x.1 i j hi hj hn a b
  · by_cases ci : i = f
    · have cj : j ≠ f := fun q => hn (ci.trans q.symm)
      rw [ci, e1] at e ⊢
      rw [e2 j cj] at e
      exact p2 j hj cj e.symm
    · by_cases cj : j = f
      · rw [cj, e1, e2 i ci] at e
        rw [e2 i ci, e]
        exact p2 i hi ci e
      · rw [e2 i ci, e2 j cj] at e
        rw [e2 i ci]
        exact x.2.1 i j hi hj hn e
  · by_cases ci : i = f
    · rw [ci, e1]
      exact p3
    · rw [e2 i ci]
      exact x.2.2 i hi
/-- what a step of the law leaves: the night it works on, no fewer minutes, wear by ways and half hours alone, a slip at most -/
def ST (σ τ : NS) (f : Nat) : Prop := LQ τ ∧ (∃ M N : Nat, σ.mi = nI M ∧ τ.mi = nI N ∧ M ≤ N ∧ N ≤ 540 ∧ ∀ k, k < 5 → ∃ a b : Nat, σ.F k 2 = nI a ∧ τ.F k 2 = nI b ∧ a ≤ b ∧ b ≤ 100 ∧ b ≤ a + (N / 30 - M / 30) + (if k = f then 9 else 0)) ∧ (τ.sl = σ.sl ∨ τ.sl = σ.sl + 1)
theorem wear_nat {σ : NS} (hv : IV σ) {k : Nat} (hk : k < σ.nf) : ∃ a, a ≤ 100 ∧ σ.F k 2 = nI a := i_le (n := 100) (hv.2.2.2.1 k hk).2.2.1.1 (hv.2.2.2.1 k hk).2.2.1.2 (by decide)
theorem ST.same {σ τ : NS} {f : Nat} (h : LQ σ) (lt : LQ τ) (hm : τ.mi = σ.mi) (hw : ∀ k, k < 5 → τ.F k 2 = σ.F k 2) (hs : τ.sl = σ.sl) : ST σ τ f := by
  obtain ⟨M, hM9, hM⟩ := mi_nat h.1
  refine ⟨lt, ⟨M, M, hM, hm.trans hM, Nat.le_refl _, hM9, fun k hk => ?_⟩, Or.inl hs⟩
  obtain ⟨a, ha, e⟩ := wear_nat h.1 (k := k) (by rw [h.2.2.1]; exact hk)
  exact ⟨a, a, e, (hw k hk).trans e, Nat.le_refl _, ha, by omega⟩
theorem ST.id {σ : NS} {f : Nat} (h : LQ σ) : ST σ σ f := ST.same h h rfl (fun _ _ => rfl) rfl
theorem upF_at {F : Nat → Nat → Int32} {f : Nat} {r : Nat → Int32} : upF F f r f = r := if_pos rfl
theorem upF_no {F : Nat → Nat → Int32} {f i : Nat} {r : Nat → Int32} (h : i ≠ f) : upF F f r i = F i := if_neg h
theorem st_fig {σ : NS} {f : Nat} {r : Nat → Int32} (h : LQ σ) (iv : IV (σ.fig f r)) (ex : EX (upF σ.F f r) σ.nf) (h2 : r 2 = σ.F f 2) : ST σ (σ.fig f r) f := by
  refine ST.same h ⟨iv, ex, h.2.2.1, h.2.2.2⟩ rfl (fun k _ => ?_) rfl
  show upF σ.F f r k 2 = σ.F k 2
  by_cases q : k = f
  · rw [q, upF_at, h2]
  · rw [upF_no q]
theorem st_way {σ : NS} {f : Nat} {r : Nat → Int32} (h : LQ σ) (iv : IV (σ.fig f r)) (ex : EX (upF σ.F f r) σ.nf) (h2 : ∃ a b : Nat, σ.F f 2 = nI a ∧ r 2 = nI b ∧ a ≤ b ∧ b ≤ 100 ∧ b ≤ a + 9) : ST σ (σ.fig f r) f := by
  obtain ⟨M, hM9, hM⟩ := mi_nat h.1
  refine ⟨⟨iv, ex, h.2.2.1, h.2.2.2⟩, ⟨M, M, hM, hM, Nat.le_refl _, hM9, fun k hk => ?_⟩, Or.inl rfl⟩
  show ∃ a b : Nat, σ.F k 2 = nI a ∧ upF σ.F f r k 2 = nI b ∧ a ≤ b ∧ b ≤ 100 ∧ b ≤ a + (M / 30 - M / 30) + (if k = f then 9 else 0)
  by_cases q : k = f
  · obtain ⟨a, b, e1, e2, h3, h4, h5⟩ := h2
    rw [q, upF_at, if_pos rfl]
    exact ⟨a, b, e1, e2, h3, h4, by omega⟩
  · obtain ⟨a, ha, e⟩ := wear_nat h.1 (k := k) (by rw [h.2.2.1]; exact hk)
    rw [upF_no q, if_neg q]
    exact ⟨a, a, e, e, Nat.le_refl _, ha, by omega⟩
/-! figures -/
theorem fx {f : Nat} (h : f < 5) : iN (nI f) = f := iN_nI (by omega)
theorem isF5 {σ : NS} {f : Nat} (h : LQ σ) (hf : f < 5) : σ.isF (nI f) := nI_isP (by rw [h.2.2.1]; exact hf) (by rw [h.2.2.1]; decide)
theorem LQ.hf {σ : NS} {f : Nat} (h : LQ σ) (hf : f < 5) : f < σ.nf := by rw [h.2.2.1]; exact hf
theorem grip_bt {sd : Nat → Int32} {F : Nat → Nat → Int32} {n i : Nat} (hi : i < 31) : ∀ m, m ≤ 31 → (bt (gripF sd F n m) i = true ↔ (i < m ∧ gripS (sd i) (F i) F n ≠ -1)) := by
  intro m
  induction m with
  | zero =>
    intro _
    rw [show gripF sd F n 0 = 0 from rfl, b_0]
    exact ⟨fun q => (by cases q), fun q => absurd q.1 (Nat.not_lt_zero _)⟩
  | succ m ih =>
    intro hm
    have ih2 := ih (by omega)
    by_cases c : gripS (sd m) (F m) F n ≠ -1
    · rw [show gripF sd F n (m + 1) = gripF sd F n m ||| ((1 : Int32) <<< (nI m &&& 31)) from if_pos c, b_or, b_one (by omega) (by omega), Bool.or_eq_true, ih2, decide_eq_true_eq]
      refine ⟨fun q => ?_, fun q => ?_⟩
      · rcases q with q | q
        · exact ⟨by omega, q.2⟩
        · rw [q]
          exact ⟨Nat.lt_succ_self m, c⟩
      · by_cases e : i = m
        · exact Or.inr e
        · exact Or.inl ⟨by omega, q.2⟩
    · rw [show gripF sd F n (m + 1) = gripF sd F n m from if_neg c, ih2]
      refine ⟨fun q => ⟨by omega, q.2⟩, fun q => ⟨?_, q.2⟩⟩
      by_cases e : i = m
      · rw [e] at q
        exact absurd q.2 c
      · omega
abbrev grS (σ : NS) (f : Nat) : Int32 := gripS (sdS σ f) (σ.F f) σ.F σ.nf
abbrev grR (σ : NS) (f : Nat) : Nat → Int32 := upd (if σ.F f 3 = 0 then upd (σ.F f) 4 (if sdS σ f = 0 then 0 else 9) else σ.F f) 3 (grS σ f)
theorem grip_is {σ : NS} {f : Nat} (h : LQ σ) (hf : f < 5) : sp_grip σ (nI f) = if grS σ f = -1 then (2, 0, σ) else (0, grS σ f, σ.fig f (grR σ f)) := by
  unfold sp_grip
  rw [if_neg (fun q => q (isF5 h hf))]
  simp only [NS.Fx, fx hf]
theorem free_no {F : Nat → Nat → Int32} {n : Nat} {hd : Int32} (h : freeP F n hd) : ∀ k, k < n → F k 3 ≠ hd := of_decide_eq_true h
theorem grR_3 {σ : NS} {f : Nat} : grR σ f 3 = grS σ f := pk_us
theorem grip_st {σ : NS} {f : Nat} (h : LQ σ) (hf : f < 5) (hg : ¬ grS σ f = -1) : ST σ (σ.fig f (grR σ f)) f ∧ (grS σ f = 2 ∨ grS σ f = 3) ∧ (σ.F f 3 = 1 → grR σ f 4 = σ.F f 4) := by
  have iv := iv_grip h.1 (nI f)
  rw [grip_is h hf, if_neg hg] at iv
  have h12 := h.1.1.2.2
  have hlt := h.hf hf
  have hr2 : grR σ f 2 = σ.F f 2 := by
    show (if σ.F f 3 = 0 then upd (σ.F f) 4 (if sdS σ f = 0 then 0 else 9) else σ.F f) 2 = σ.F f 2
    split <;> rfl
  have h4 : σ.F f 3 ≠ 0 → grR σ f 4 = σ.F f 4 := fun q => by
    show (if σ.F f 3 = 0 then upd (σ.F f) 4 (if sdS σ f = 0 then 0 else 9) else σ.F f) 4 = σ.F f 4
    rw [if_neg q]
  refine ⟨st_fig h iv ?_ hr2, gripS_23 hg, fun q => h4 (by rw [q]; decide)⟩
  have q9 := h.1.2.2.2.1 f hlt
  rcases q9.2.2.2 with ⟨e3, -⟩ | ⟨e3, hp, -⟩ | ⟨e3, -⟩
  · -- from the box
    have e4 : grR σ f 4 = if sdS σ f = 0 then 0 else 9 := by
      show (if σ.F f 3 = 0 then upd (σ.F f) 4 (if sdS σ f = 0 then 0 else 9) else σ.F f) 4 = _
      rw [if_pos e3]
      rfl
    have hk : freeP σ.F σ.nf (if sdS σ f = 0 then 2 else 3) ∧ figAt σ.F σ.nf (if sdS σ f = 0 then 0 else 9) = -1 := by
      by_cases q : freeP σ.F σ.nf (if sdS σ f = 0 then 2 else 3) ∧ figAt σ.F σ.nf (if sdS σ f = 0 then 0 else 9) = -1
      · exact q
      · refine absurd ?_ hg
        show gripS (sdS σ f) (σ.F f) σ.F σ.nf = -1
        unfold gripS
        rw [if_pos e3, if_neg q]
    have hs : grS σ f = if sdS σ f = 0 then 2 else 3 := by
      show gripS (sdS σ f) (σ.F f) σ.F σ.nf = _
      unfold gripS
      rw [if_pos e3, if_pos hk]
    refine h.2.1.up (fun _ j hj _ hj3 e => ?_) (fun j hj _ e => ?_) ⟨fun q => ?_, fun q => ?_⟩
    · exact (at_neg (by omega)).mp hk.2 j hj ⟨hj3, e.trans e4⟩
    · exact absurd (e.trans (grR_3.trans hs)) (free_no hk.1 j hj)
    · rw [e4]
      by_cases c : sdS σ f = 0
      · rw [if_pos c]; decide
      · rw [grR_3, hs, if_neg c] at q; exact absurd q (by decide)
    · rw [e4]
      by_cases c : sdS σ f = 0
      · rw [grR_3, hs, if_pos c] at q; exact absurd q (by decide)
      · rw [if_neg c]; decide
  · -- planted
    have hne : σ.F f 3 ≠ 0 := by rw [e3]; decide
    have e4 := h4 hne
    have hs := gripS_pl (sd := sdS σ f) (F := σ.F) (n := σ.nf) e3
    have hs9 : (grS σ f = 2 ∧ reachP 2 (σ.F f 4) ∧ freeP σ.F σ.nf 2) ∨ (grS σ f = 3 ∧ reachP 3 (σ.F f 4) ∧ freeP σ.F σ.nf 3) := by
      by_cases c : reachP 2 (σ.F f 4) ∧ freeP σ.F σ.nf 2
      · rw [if_pos c] at hs
        exact Or.inl ⟨hs, c⟩
      · by_cases c2 : reachP 3 (σ.F f 4) ∧ freeP σ.F σ.nf 3
        · rw [if_neg c, if_pos c2] at hs
          exact Or.inr ⟨hs, c2⟩
        · rw [if_neg c, if_neg c2] at hs
          exact absurd hs hg
    refine h.2.1.up (fun _ j hj hn hj3 e => ?_) (fun j hj _ e => ?_) ⟨fun q => ?_, fun q => ?_⟩
    · exact h.2.1.1 j f hj hlt hn hj3 hne (e.trans e4)
    · rw [grR_3] at e
      rcases hs9 with ⟨z, -, fr⟩ | ⟨z, -, fr⟩
      · exact absurd (e.trans z) (free_no fr j hj)
      · exact absurd (e.trans z) (free_no fr j hj)
    · rw [e4]
      rw [grR_3] at q
      rcases hs9 with ⟨z, rc, -⟩ | ⟨z, -, -⟩
      · exact rc
      · rw [z] at q; exact absurd q (by decide)
    · rw [e4]
      rw [grR_3] at q
      rcases hs9 with ⟨z, -, -⟩ | ⟨z, rc, -⟩
      · rw [z] at q; exact absurd q (by decide)
      · exact rc
  · refine absurd (gripS_no (fun q => ?_) (fun q => ?_)) hg
    · rcases e3 with e | e <;> (rw [e] at q; exact absurd q (by decide))
    · rcases e3 with e | e <;> (rw [e] at q; exact absurd q (by decide))
abbrev hndP (σ : NS) (f : Nat) : Prop := σ.F f 3 = 2 ∨ σ.F f 3 = 3
theorem hnd_0 {σ : NS} {f : Nat} (h : hndP σ f) : σ.F f 3 ≠ 0 ∧ σ.F f 3 ≠ 1 := by
  rcases h with e | e <;> rw [e] <;> decide
theorem LQ.hnd {σ : NS} {f : Nat} (h : LQ σ) (hf : f < 5) (c : ¬ σ.F f 3 ≤ 1) : hndP σ f := by
  rcases (h.1.2.2.2.1 f (h.hf hf)).2.2.2 with ⟨e, -⟩ | ⟨e, -⟩ | ⟨e, -⟩
  · rw [e] at c; exact absurd (by decide) c
  · rw [e] at c; exact absurd (by decide) c
  · exact e
theorem hnd_1 {σ : NS} {f : Nat} (h : hndP σ f) : ¬ σ.F f 3 ≤ 1 := by
  rcases h with e | e <;> rw [e] <;> decide
abbrev mvR (σ : NS) (f q : Nat) : Nat → Int32 := upd (wearR (σ.F f) (absI (nI q - σ.F f 4))) 4 (nI q)
abbrev mvP (σ : NS) (f q : Nat) : Prop := hndP σ f ∧ reachP (σ.F f 3) (nI q) ∧ figAt σ.F σ.nf (nI q) = -1
theorem move_is {σ : NS} {f q : Nat} (h : LQ σ) (hf : f < 5) (hq : q < 10) : (mvP σ f q → sp_move σ (nI f) (nI q) = (0, wearR (σ.F f) (absI (nI q - σ.F f 4)) 2, σ.fig f (mvR σ f q))) ∧ (¬ mvP σ f q → sp_move σ (nI f) (nI q) = (3, 0, σ)) := by
  have e : sp_move σ (nI f) (nI q) = if ¬ (σ.F f 3 = 2 ∨ σ.F f 3 = 3) ∨ ¬ reachP (σ.F f 3) (nI q) ∨ ¬ figAt σ.F σ.nf (nI q) = -1 then (3, 0, σ) else (0, wearR (σ.F f) (absI (nI q - σ.F f 4)) 2, σ.fig f (mvR σ f q)) := by
    unfold sp_move
    rw [if_neg (fun z => z (isF5 h hf)), if_neg (fun z => z (i_in (k := q) (n := 9) (by omega) (by decide)))]
    simp only [NS.Fx, fx hf]
  refine ⟨fun p => ?_, fun p => ?_⟩
  · rw [e, if_neg]
    rintro (z | z | z)
    · exact z p.1
    · exact z p.2.1
    · exact z p.2.2
  · rw [e, if_pos]
    by_cases z1 : σ.F f 3 = 2 ∨ σ.F f 3 = 3
    · by_cases z2 : reachP (σ.F f 3) (nI q)
      · exact Or.inr (Or.inr (fun z3 => p ⟨z1, z2, z3⟩))
      · exact Or.inr (Or.inl z2)
    · exact Or.inl z1
theorem move_st {σ : NS} {f q : Nat} (h : LQ σ) (hf : f < 5) (hq : q < 10) (p : mvP σ f q) : ST σ (σ.fig f (mvR σ f q)) f := by
  have iv := iv_move h.1 (nI f) (nI q)
  rw [(move_is h hf hq).1 p] at iv
  have hlt := h.hf hf
  have h12 := h.1.1.2.2
  have e3 : mvR σ f q 3 = σ.F f 3 := rfl
  have e4 : mvR σ f q 4 = nI q := rfl
  obtain ⟨hp, -⟩ := h.1.hand hlt p.1
  have hd := abs_9 (x := nI q) (y := σ.F f 4) (i_in (k := q) (n := 9) (by omega) (by decide)) hp
  obtain ⟨w, hw, ew⟩ := i_le (n := 9) hd.1 hd.2 (by decide)
  obtain ⟨a, ha, ea⟩ := wear_nat h.1 hlt
  refine st_way h iv ?_ ?_
  · refine h.2.1.up (fun _ j hj hn hj3 e => ?_) (fun j hj hn e => ?_) ⟨fun z => ?_, fun z => ?_⟩
    · exact (at_neg (by omega)).mp p.2.2 j hj ⟨hj3, e.trans e4⟩
    · rw [e3] at e ⊢
      rcases h.2.1.2.1 j f hj hlt hn e with z | z
      · exact Or.inl (e.symm.trans z)
      · exact Or.inr (e.symm.trans z)
    · rw [e4]
      have h9 := p.2.1
      rw [show σ.F f 3 = 2 from z] at h9
      exact h9
    · rw [e4]
      have h9 := p.2.1
      rw [show σ.F f 3 = 3 from z] at h9
      exact h9
  · show ∃ a b : Nat, σ.F f 2 = nI a ∧ (if σ.F f 2 + absI (nI q - σ.F f 4) < 100 then σ.F f 2 + absI (nI q - σ.F f 4) else 100) = nI b ∧ a ≤ b ∧ b ≤ 100 ∧ b ≤ a + 9
    rw [ea, ew, nI_add]
    by_cases c : a + w < 100
    · rw [if_pos (show nI (a + w) < 100 from (nI_lt c (by decide) : nI (a + w) < nI 100))]
      exact ⟨a, a + w, rfl, rfl, by omega, by omega, by omega⟩
    · rw [if_neg (show ¬ nI (a + w) < 100 from (nI_nlt (by omega) (by omega) : ¬ nI (a + w) < nI 100))]
      exact ⟨a, 100, rfl, rfl, ha, by omega, by omega⟩
theorem lift_is {σ : NS} {f q : Nat} (h : LQ σ) (hf : f < 5) (hq : q < 16) (p : hndP σ f) : sp_lift σ (nI f) (nI q) = (0, shad (σ.F f) σ.di (nI q), σ.fig f (upd (σ.F f) 5 (nI q))) := by
  unfold sp_lift
  rw [if_neg (fun z => z (isF5 h hf)), if_neg (show ¬ out (nI q) 0 15 from no_out (lo := 0) (hi := 15) (Nat.zero_le _) (by omega) (by decide))]
  simp only [NS.Fx, fx hf]
  rw [if_neg (fun z => z p)]
theorem lift_st {σ : NS} {f q : Nat} (h : LQ σ) (hf : f < 5) (hq : q < 16) (p : hndP σ f) : ST σ (σ.fig f (upd (σ.F f) 5 (nI q))) f := by
  have iv := iv_lift h.1 (nI f) (nI q)
  rw [lift_is h hf hq p] at iv
  refine st_fig h iv ?_ rfl
  refine h.2.1.cong (fun i _ => ?_)
  by_cases z : i = f
  · rw [z, upF_at]; exact ⟨rfl, rfl⟩
  · rw [upF_no z]; exact ⟨rfl, rfl⟩
theorem plant_is {σ : NS} {f : Nat} (h : LQ σ) (hf : f < 5) : (hndP σ f → sp_plant σ (nI f) = (0, σ.F f 4, σ.fig f (upd (upd (σ.F f) 3 1) 5 0))) ∧ (¬ hndP σ f → sp_plant σ (nI f) = (2, 0, σ)) := by
  have e : sp_plant σ (nI f) = if ¬ (σ.F f 3 = 2 ∨ σ.F f 3 = 3) then (2, 0, σ) else (0, σ.F f 4, σ.fig f (upd (upd (σ.F f) 3 1) 5 0)) := by
    unfold sp_plant
    rw [if_neg (fun z => z (isF5 h hf))]
    simp only [NS.Fx, fx hf]
  exact ⟨fun p => by rw [e, if_neg (fun z => z p)], fun p => by rw [e, if_pos p]⟩
theorem plant_st {σ : NS} {f : Nat} (h : LQ σ) (hf : f < 5) (p : hndP σ f) : ST σ (σ.fig f (upd (upd (σ.F f) 3 1) 5 0)) f := by
  have iv := iv_plant h.1 (nI f)
  rw [(plant_is h hf).1 p] at iv
  refine st_fig h iv (h.2.1.up (fun _ j hj hn hj3 e => ?_) (fun j hj hn e => Or.inr rfl) ⟨fun z => ?_, fun z => ?_⟩) rfl
  · exact h.2.1.1 j f hj (h.hf hf) hn hj3 (hnd_0 p).1 e
  · exact absurd (show (1 : Int32) = 2 from z) (by decide)
  · exact absurd (show (1 : Int32) = 3 from z) (by decide)
abbrev otS (σ : NS) (f : Nat) : Int32 := if σ.F f 3 = 2 then 3 else 2
abbrev haP (σ : NS) (f : Nat) : Prop := hndP σ f ∧ reachP (otS σ f) (σ.F f 4) ∧ freeP σ.F σ.nf (otS σ f)
theorem hand_is {σ : NS} {f : Nat} (h : LQ σ) (hf : f < 5) : (haP σ f → sp_hand σ (nI f) = (0, otS σ f, σ.fig f (upd (σ.F f) 3 (otS σ f)))) ∧ (¬ haP σ f → sp_hand σ (nI f) = (2, 0, σ)) := by
  have e : sp_hand σ (nI f) = if ¬ (σ.F f 3 = 2 ∨ σ.F f 3 = 3) ∨ ¬ (reachP (otS σ f) (σ.F f 4) ∧ freeP σ.F σ.nf (otS σ f)) then (2, 0, σ) else (0, otS σ f, σ.fig f (upd (σ.F f) 3 (otS σ f))) := by
    unfold sp_hand othH
    rw [if_neg (fun z => z (isF5 h hf))]
    simp only [NS.Fx, fx hf]
  refine ⟨fun p => by rw [e, if_neg (fun z => z.elim (fun z => z p.1) (fun z => z p.2))], fun p => ?_⟩
  rw [e, if_pos]
  by_cases z1 : σ.F f 3 = 2 ∨ σ.F f 3 = 3
  · exact Or.inr (fun z => p ⟨z1, z⟩)
  · exact Or.inl z1
theorem hand_st {σ : NS} {f : Nat} (h : LQ σ) (hf : f < 5) (p : haP σ f) : ST σ (σ.fig f (upd (σ.F f) 3 (otS σ f))) f ∧ otS σ f = 5 - σ.F f 3 ∧ ¬ σ.F f 4 < 4 ∧ ¬ 5 < σ.F f 4 ∧ ¬ otS σ f < 0 := by
  have iv := iv_hand h.1 (nI f)
  rw [(hand_is h hf).1 p] at iv
  have hlt := h.hf hf
  have hx := h.2.1.2.2 f hlt
  have fr := free_no p.2.2
  have rc := p.2.1
  refine ⟨st_fig h iv (h.2.1.up (fun _ j hj hn hj3 e => ?_) (fun j hj hn e => ?_) ⟨fun z => ?_, fun z => ?_⟩) rfl, ?_⟩
  · exact h.2.1.1 j f hj hlt hn hj3 (hnd_0 p.1).1 e
  · exact absurd e (fr j hj)
  · have z : otS σ f = 2 := z
    rw [z] at rc
    exact rc
  · have z : otS σ f = 3 := z
    rw [z] at rc
    exact rc
  · rcases p.1 with e | e
    · have eo : otS σ f = 3 := if_pos e
      rw [eo] at rc ⊢
      rw [e]
      exact ⟨by decide, Int32.not_lt.mpr rc, Int32.not_lt.mpr (hx.1 e), by decide⟩
    · have eo : otS σ f = 2 := if_neg (by rw [e]; decide)
      rw [eo] at rc ⊢
      rw [e]
      exact ⟨by decide, Int32.not_lt.mpr (hx.2 e), Int32.not_lt.mpr rc, by decide⟩
abbrev edS (σ : NS) (f : Nat) : Int32 := if sdS σ f = 0 then 0 else 9
abbrev awP (σ : NS) (f : Nat) : Prop := hndP σ f ∧ σ.F f 4 = edS σ f
abbrev awC (σ : NS) (f : Nat) : Int32 := cntF (upF σ.F f (awayR (σ.F f))) σ.nf
theorem away_is {σ : NS} {f : Nat} (h : LQ σ) (hf : f < 5) : (awP σ f → sp_away σ (nI f) = (0, awC σ f, σ.fig f (awayR (σ.F f)))) ∧ (¬ awP σ f → sp_away σ (nI f) = (2, 0, σ)) := by
  have e : sp_away σ (nI f) = if ¬ (σ.F f 3 = 2 ∨ σ.F f 3 = 3) ∨ ¬ σ.F f 4 = edS σ f then (2, 0, σ) else (0, awC σ f, σ.fig f (awayR (σ.F f))) := by
    unfold sp_away
    rw [if_neg (fun z => z (isF5 h hf))]
    simp only [NS.Fx, fx hf]
  refine ⟨fun p => by rw [e, if_neg (fun z => z.elim (fun z => z p.1) (fun z => z p.2))], fun p => ?_⟩
  rw [e, if_pos]
  by_cases z1 : σ.F f 3 = 2 ∨ σ.F f 3 = 3
  · exact Or.inr (fun z => p ⟨z1, z⟩)
  · exact Or.inl z1
theorem cnt_less {F : Nat → Nat → Int32} {f : Nat} {r : Nat → Int32} (h0 : F f 3 ≠ 0) (hr : r 3 = 0) : ∀ n, cntF (upF F f r) n = if f < n then cntF F n - 1 else cntF F n := by
  intro n
  induction n with
  | zero => rw [if_neg (Nat.not_lt_zero _)]; rfl
  | succ n ih =>
    show (if upF F f r n 3 ≠ 0 then cntF (upF F f r) n + 1 else cntF (upF F f r) n) = if f < n + 1 then (if F n 3 ≠ 0 then cntF F n + 1 else cntF F n) - 1 else (if F n 3 ≠ 0 then cntF F n + 1 else cntF F n)
    by_cases c : f = n
    · subst c
      rw [upF_at, if_neg (fun z => z hr), ih, if_neg (Nat.lt_irrefl _), if_pos (Nat.lt_succ_self _), if_pos h0, Int32.add_sub_cancel]
    · rw [upF_no (fun z => c z.symm), ih]
      by_cases d : f < n
      · rw [if_pos d, if_pos (show f < n + 1 by omega)]
        by_cases q : F n 3 ≠ 0
        · rw [if_pos q, if_pos q, Int32.sub_eq_add_neg, Int32.add_assoc, Int32.add_comm (-1) 1, ← Int32.add_assoc, ← Int32.sub_eq_add_neg]
        · rw [if_neg q, if_neg q]
      · rw [if_neg d, if_neg (show ¬ f < n + 1 by omega)]
theorem away_st {σ : NS} {f : Nat} (h : LQ σ) (hf : f < 5) (p : awP σ f) : ST σ (σ.fig f (awayR (σ.F f))) f ∧ awC σ f = cntF σ.F σ.nf - 1 ∧ ¬ awC σ f < 0 ∧ (σ.F f 4 = 0 ∨ σ.F f 4 = 9) := by
  have iv := iv_away h.1 (nI f)
  rw [(away_is h hf).1 p] at iv
  have hlt := h.hf hf
  have e3 : awayR (σ.F f) 3 = 0 := rfl
  refine ⟨st_fig h iv (h.2.1.up (fun z => absurd e3 z) (fun j hj hn e => Or.inl e3) ⟨fun z => ?_, fun z => ?_⟩) rfl, ?_, ?_, ?_⟩
  · exact absurd (e3.symm.trans z) (by decide)
  · exact absurd (e3.symm.trans z) (by decide)
  · show cntF (upF σ.F f (awayR (σ.F f))) σ.nf = _
    rw [cnt_less (hnd_0 p.1).1 e3, if_pos hlt]
  · obtain ⟨c, s, hc, -, e, -⟩ := sum_nat iv σ.nf (Nat.le_refl _)
    have e : awC σ f = nI c := e
    have h12 := h.1.1.2.2
    rw [e]
    exact nI_pos (by omega)
  · rw [p.2]
    by_cases c : sdS σ f = 0
    · exact Or.inl (if_pos c)
    · exact Or.inr (if_neg c)
