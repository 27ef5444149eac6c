/-! STEPS: minutes, taps, words, jokes, offerings, the lamp -/
/-- what minutes leave as it is -/
def PR (σ τ : NS) : Prop := τ.np = σ.np ∧ τ.P = σ.P ∧ τ.ns = σ.ns ∧ τ.S = σ.S ∧ τ.nf = σ.nf ∧ τ.di = σ.di ∧ (∀ i j, j ≠ 2 → τ.F i j = σ.F i j) ∧ ∀ q, q ≠ 0 → q ≠ 1 → τ.v q = σ.v q
theorem PR.rf {σ : NS} : PR σ σ := ⟨rfl, rfl, rfl, rfl, rfl, rfl, fun _ _ _ => rfl, fun _ _ _ => rfl⟩
theorem PR.trans {σ τ υ : NS} (a : PR σ τ) (b : PR τ υ) : PR σ υ := ⟨b.1.trans a.1, b.2.1.trans a.2.1, b.2.2.1.trans a.2.2.1, b.2.2.2.1.trans a.2.2.2.1, b.2.2.2.2.1.trans a.2.2.2.2.1, b.2.2.2.2.2.1.trans a.2.2.2.2.2.1, fun i j h => (b.2.2.2.2.2.2.1 i j h).trans (a.2.2.2.2.2.2.1 i j h), fun q h0 h1 => (b.2.2.2.2.2.2.2 q h0 h1).trans (a.2.2.2.2.2.2.2 q h0 h1)⟩
theorem mn2_F (sp : Int32) (σ : NS) : (mn2 sp σ).F = σ.F := by
  unfold mn2
  split <;> rfl
theorem mn2_pr (sp : Int32) (σ : NS) : PR σ (mn2 sp σ) := by
  unfold mn2
  split
  · exact ⟨rfl, rfl, rfl, rfl, rfl, rfl, fun _ _ _ => rfl, fun q h0 h1 => (pk_un h1).trans (pk_un h0)⟩
  · exact ⟨rfl, rfl, rfl, rfl, rfl, rfl, fun _ _ _ => rfl, fun q h0 h1 => pk_un h0⟩
theorem wearF1_j (F : Nat → Nat → Int32) (n i j : Nat) (h : j ≠ 2) : wearF1 F n i j = F i j := by
  unfold wearF1
  split
  · exact pk_un h
  · rfl
theorem mnS_pr (sp : Int32) (σ : NS) : PR σ (mnS sp σ) := by
  have h := mn2_pr sp σ
  unfold mnS
  split
  · exact ⟨h.1, h.2.1, h.2.2.1, h.2.2.2.1, h.2.2.2.2.1, h.2.2.2.2.2.1, fun i j hj => (wearF1_j _ _ i j hj).trans (h.2.2.2.2.2.2.1 i j hj), h.2.2.2.2.2.2.2⟩
  · exact h
theorem goN_pr (sp : Int32) (σ : NS) : ∀ k, PR σ (goN sp k σ) := by
  intro k
  induction k with
  | zero => exact PR.rf
  | succ k ih => exact ih.trans (mnS_pr sp (goN sp k σ))
theorem mnS_w {sp : Int32} {σ : NS} {M : Nat} (hM : σ.mi = nI M) (hl : M < 540) {i a : Nat} (ha : a ≤ 100) (e : σ.F i 2 = nI a) : ∃ b, (mnS sp σ).F i 2 = nI b ∧ a ≤ b ∧ b ≤ 100 ∧ b ≤ a + ((M + 1) / 30 - M / 30) := by
  have hc : σ.mi + 1 - (σ.mi + 1) / 30 * 30 = nI ((M + 1) % 30) := by
    rw [hM, nI_1]
    exact pk_rem (d := 30) (by omega) (by decide) (by decide)
  have e2 : (mn2 sp σ).F i 2 = nI a := by rw [mn2_F]; exact e
  unfold mnS
  by_cases c : (M + 1) % 30 = 0
  · rw [if_pos (by rw [hc, c]; rfl)]
    show ∃ b, wearF1 (mn2 sp σ).F (mn2 sp σ).nf i 2 = nI b ∧ a ≤ b ∧ b ≤ 100 ∧ b ≤ a + ((M + 1) / 30 - M / 30)
    unfold wearF1
    split
    · show ∃ b, (if (mn2 sp σ).F i 2 + 1 < 100 then (mn2 sp σ).F i 2 + 1 else 100) = nI b ∧ a ≤ b ∧ b ≤ 100 ∧ b ≤ a + ((M + 1) / 30 - M / 30)
      rw [e2, nI_1]
      by_cases q : a + 1 < 100
      · rw [if_pos (show nI (a + 1) < 100 from (nI_lt q (by decide) : nI (a + 1) < nI 100))]
        exact ⟨a + 1, rfl, by omega, by omega, by omega⟩
      · rw [if_neg (show ¬ nI (a + 1) < 100 from (nI_nlt (by omega) (by omega) : ¬ nI (a + 1) < nI 100))]
        exact ⟨100, rfl, by omega, by omega, by omega⟩
    · exact ⟨a, e2, Nat.le_refl _, ha, by omega⟩
  · rw [if_neg (by rw [hc]; exact nI_ne0 (by omega) (by omega))]
    exact ⟨a, e2, Nat.le_refl _, ha, by omega⟩
theorem goN_w {sp : Int32} {σ : NS} (hv : IV σ) {M : Nat} (hM : σ.mi = nI M) {i a : Nat} (ha : a ≤ 100) (e : σ.F i 2 = nI a) : ∀ k, M + k ≤ 540 → ∃ b, (goN sp k σ).F i 2 = nI b ∧ a ≤ b ∧ b ≤ 100 ∧ b ≤ a + ((M + k) / 30 - M / 30) := by
  intro k
  induction k with
  | zero => intro _; exact ⟨a, e, Nat.le_refl _, ha, by omega⟩
  | succ k ih =>
    intro hk
    obtain ⟨b, e2, h1, h2, h3⟩ := ih (by omega)
    obtain ⟨b2, e3, h4, h5, h6⟩ := mnS_w (sp := sp) (IV_go (sp := sp) hv hM k (by omega)).2 (by omega) h2 e2
    exact ⟨b2, e3, by omega, h5, by omega⟩
/-- k minutes, from a night that has the figures and the minute of the one before -/
theorem st_go {σ σ1 : NS} {f k M : Nat} {sp : Int32} (h : LQ σ) (iv : IV σ1) (e1 : σ1.np = σ.np) (e2 : σ1.nf = σ.nf) (e3 : σ1.F = σ.F) (e4 : σ1.mi = σ.mi) (hs : σ1.sl = σ.sl ∨ σ1.sl = σ.sl + 1) (hM : σ.mi = nI M) (hk : M + k ≤ 540) : ST σ (goN sp k σ1) f := by
  have p := goN_pr sp σ1 k
  obtain ⟨iv2, em⟩ := IV_go (sp := sp) iv (e4.trans hM) k hk
  have en : (goN sp k σ1).nf = σ.nf := p.2.2.2.2.1.trans e2
  refine ⟨⟨iv2, ?_, en.trans h.2.2.1, by rw [p.1, e1]; exact h.2.2.2⟩, ⟨M, M + k, hM, em, by omega, hk, fun i hi => ?_⟩, ?_⟩
  · rw [en]
    refine h.2.1.cong (fun i _ => ?_)
    rw [p.2.2.2.2.2.2.1 i 3 (by decide), p.2.2.2.2.2.2.1 i 4 (by decide), e3]
    exact ⟨rfl, rfl⟩
  · obtain ⟨a, ha, e⟩ := wear_nat h.1 (k := i) (by rw [h.2.2.1]; exact hi)
    obtain ⟨b, e5, h1, h2, h3⟩ := goN_w (sp := sp) iv (e4.trans hM) ha (by rw [e3]; exact e) k hk
    exact ⟨a, b, e, e5, h1, h2, by omega⟩
  · rw [show (goN sp k σ1).sl = σ1.sl from p.2.2.2.2.2.2.2 5 (by decide) (by decide)]
    exact hs
theorem mnS_v (sp : Int32) (σ : NS) : (mnS sp σ).v = (mn2 sp σ).v := by
  unfold mnS
  split <;> rfl
theorem goN_t0 {σ : NS} {T : Nat} (hT : σ.ti = nI T) (h9 : T ≤ 100) : ∀ k, (goN 0 k σ).ti = nI (T - k) := by
  intro k
  induction k with
  | zero => exact hT
  | succ k ih =>
    show (mnS 0 (goN 0 k σ)).v 1 = _
    rw [mnS_v]
    unfold mn2
    by_cases c : 0 < T - k
    · rw [if_pos ⟨rfl, by rw [ih]; exact nI_lt (a := 0) c (by omega)⟩]
      show (goN 0 k σ).ti - 1 = _
      rw [ih, show nI (T - k) - 1 = nI (T - k - 1) from pk_sub (a := T - k) (b := 1) c]
      rfl
    · rw [if_neg (fun q => by
        have q2 := q.2
        rw [ih] at q2
        exact absurd q2 (nI_nlt (b := 0) (a := T - k) (by omega) (by omega) ∘ fun z => (by
          have e9 : T - k = 0 := by omega
          rw [e9] at z
          exact absurd z (by decide))))]
      show (goN 0 k σ).ti = _
      rw [ih]
      congr 1
      omega
theorem goN_t1 {σ : NS} : ∀ k, (goN 1 k σ).ti = σ.ti := by
  intro k
  induction k with
  | zero => rfl
  | succ k ih =>
    show (mnS 1 (goN 1 k σ)).v 1 = _
    rw [mnS_v]
    unfold mn2
    rw [if_neg (fun q => absurd q.1 (by decide))]
    exact ih
theorem pass_is {σ : NS} {M z : Nat} (hM : σ.mi = nI M) (h1 : 1 ≤ z) (h2 : z ≤ 99) (hk : M + z ≤ 540) : sp_pass σ (nI z) = (0, (goN 0 z σ).o 4 - σ.o 4, goN 0 z σ) := by
  unfold sp_pass
  rw [if_neg (show ¬ out (nI z) 1 99 from no_out (lo := 1) (hi := 99) h1 h2 (by decide)), if_neg (fun q => q (by rw [hM, nI_add]; exact (nI_le hk (by decide) : nI (M + z) ≤ nI 540)))]
  rw [iN_nI (by omega)]
/-- the greater of 0 and what is left -/
theorem max_is {T z : Nat} (hT : T ≤ 100) (hz : z ≤ 100) : (if 0 < nI T - nI z then nI T - nI z else 0) = nI (T - z) := by
  by_cases c : z < T
  · rw [pk_sub (by omega), if_pos (show 0 < nI (T - z) from (nI_lt (a := 0) (b := T - z) (by omega) (by omega) : nI 0 < nI (T - z)))]
  · by_cases d : z = T
    · rw [d, Int32.sub_self, if_neg (by decide), Nat.sub_self]; rfl
    · rw [if_neg (fun q => Int32.lt_irrefl (Int32.lt_trans q (pk_sneg (by omega) (by omega)))), show T - z = 0 by omega]; rfl
theorem offer_is {σ : NS} {M : Nat} (hM : σ.mi = nI M) (hk : M + 3 ≤ 540) : sp_offer σ = (0, (if σ.be + 5 < 30 then σ.be + 5 else 30), goN 0 3 (ofS σ)) := by
  unfold sp_offer
  rw [if_neg (fun q => q (by rw [hM, show nI M + 3 = nI (M + 3) from nI_add M 3]; exact (nI_le hk (by decide) : nI (M + 3) ≤ nI 540)))]
  rw [show (goN 0 3 (ofS σ)).be = (ofS σ).be from (goN_pr 0 (ofS σ) 3).2.2.2.2.2.2.2 3 (by decide) (by decide)]
  rfl
theorem offer_st {σ : NS} {f M : Nat} (h : LQ σ) (hM : σ.mi = nI M) (hk : M + 3 ≤ 540) : ST σ (goN 0 3 (ofS σ)) f ∧ (goN 0 3 (ofS σ)).mi = nI (M + 3) := ⟨st_go h (IV_ofS h.1) rfl rfl rfl rfl (Or.inl rfl) hM hk, (IV_go (sp := 0) (IV_ofS h.1) (show (ofS σ).mi = nI M from hM) 3 hk).2⟩
theorem lvl_in : ∀ j, j < 3 → ¬ out (nI j - 1) (-1) 1 := by decide +kernel
theorem spL_k {σ : NS} {x y z u : Int32} : (spL σ x y z u).np = σ.np ∧ (spL σ x y z u).nf = σ.nf ∧ (spL σ x y z u).F = σ.F ∧ (spL σ x y z u).mi = σ.mi ∧ ((spL σ x y z u).sl = σ.sl ∨ (spL σ x y z u).sl = σ.sl + 1) ∧ (spL σ x y z u).ti = (if σ.ti + spE σ x z < 100 then σ.ti + spE σ x z else 100) := by
  unfold spL
  split
  · exact ⟨rfl, rfl, rfl, rfl, Or.inl rfl, rfl⟩
  · exact ⟨rfl, rfl, rfl, rfl, Or.inr rfl, rfl⟩
/-- one speaks to the next -/
theorem speak_is {σ : NS} {M w t z j : Nat} (h : LQ σ) (hM : σ.mi = nI M) (hw : w < σ.np) (ht : t < σ.np) (hn : w ≠ t) (h1 : 1 ≤ z) (h2 : z ≤ 9) (hj : j < 3) (hs : holdsP (setF σ.F σ.nf) (nI w)) (h79 : σ.ti ≤ 79) (hk : M + z ≤ 540) :
    sp_speak σ (nI w) (nI t) (nI z) (nI j - 1) = (0, (spL σ (nI w) (nI t) (nI z) (nI j - 1)).ti, goN 1 z (spL σ (nI w) (nI t) (nI z) (nI j - 1))) := by
  have h8 := h.1.1.1
  unfold sp_speak
  rw [if_neg, if_neg, if_neg, iN_nI (by omega), goN_t1]
  · rintro (q | q | q)
    · exact q hs
    · exact absurd (Int32.le_trans q h79) (by decide)
    · exact q (by rw [hM, nI_add]; exact (nI_le hk (by decide) : nI (M + z) ≤ nI 540))
  · rintro (q | q | q)
    · exact hn ((nI_eq (by omega) (by omega)).mp q)
    · exact no_out (lo := 1) (hi := 9) h1 h2 (by decide) q
    · exact lvl_in j hj q
  · rintro (q | q)
    · exact q (nI_isP hw (by omega))
    · exact q (nI_isP ht (by omega))
theorem speak_ti {σ : NS} {w z : Nat} {y u : Int32} (h : LQ σ) (hw : w < σ.np) (h1 : 1 ≤ z) (h2 : z ≤ 9) (h79 : σ.ti ≤ 79) : ¬ (spL σ (nI w) y (nI z) u).ti ≤ σ.ti ∧ ¬ 100 < (spL σ (nI w) y (nI z) u).ti := by
  have h8 := h.1.1.1
  obtain ⟨T, hT9, hT⟩ := i_le (n := 79) h.1.tiB.1 h79 (by decide)
  have hp := abs_9 (x := σ.P w 2) (y := σ.lp) (h.1.2.1 w hw).2.2.1 h.1.lpB
  obtain ⟨p, hp9, ep⟩ := i_le (n := 9) hp.1 hp.2 (by decide)
  have hzp : z * p ≤ 9 * 9 := Nat.mul_le_mul h2 hp9
  have eE : spE σ (nI w) (nI z) = nI (1 + z * p / 3) := by
    unfold spE
    rw [iN_nI (by omega), ep, pk_mul, show nI (z * p) / 3 = nI (z * p / 3) from pk_div (d := 3) (by omega) (by decide) (by decide)]
    exact nI_add 1 _
  rw [spL_k.2.2.2.2.2, eE, hT, nI_add]
  have hd : z * p / 3 ≤ 27 := by omega
  by_cases c : T + (1 + z * p / 3) < 100
  · rw [if_pos (show nI (T + (1 + z * p / 3)) < 100 from (nI_lt c (by decide) : _ < nI 100))]
    exact ⟨nI_ge (by omega) (by omega), (nI_nlt (by omega) (by decide) : ¬ nI 100 < nI (T + (1 + z * p / 3)))⟩
  · rw [if_neg (show ¬ nI (T + (1 + z * p / 3)) < 100 from (nI_nlt (by omega) (by omega) : ¬ _ < nI 100))]
    exact ⟨(nI_ge (by omega) (by decide) : ¬ nI 100 ≤ nI T), by decide⟩
theorem speak_st {σ : NS} {f M w z : Nat} {y u : Int32} (h : LQ σ) (hM : σ.mi = nI M) (hw : w < σ.np) (h1 : 1 ≤ z) (h2 : z ≤ 9) (hk : M + z ≤ 540) : ST σ (goN 1 z (spL σ (nI w) y (nI z) u)) f ∧ (goN 1 z (spL σ (nI w) y (nI z) u)).mi = nI (M + z) ∧ (goN 1 z (spL σ (nI w) y (nI z) u)).ti = (spL σ (nI w) y (nI z) u).ti := by
  have h8 := h.1.1.1
  obtain ⟨k1, k2, k3, k4, k5, -⟩ := spL_k (σ := σ) (x := nI w) (y := y) (z := nI z) (u := u)
  have iv := IV_spL (y := y) (u := u) h.1 (x := nI w) (z := nI z) (by rw [iN_nI (by omega)]; exact hw) ⟨(nI_le h1 (by omega) : nI 1 ≤ nI z), (nI_le h2 (by decide) : nI z ≤ nI 9)⟩
  exact ⟨st_go h iv k1 k2 k3 k4 k5 hM hk, (IV_go (sp := 1) iv (k4.trans hM) z hk).2, goN_t1 z⟩
theorem joke_is {σ : NS} {q : Nat} (hq : q < 10) : sp_joke σ (nI q) = if nI q ≤ σ.be then (0, σ.be - nI q, σ.up 3 (σ.be - nI q)) else (0, -2, σ.up 6 (σ.off + 1)) := by
  unfold sp_joke
  rw [if_neg (show ¬ out (nI q) 0 9 from no_out (lo := 0) (hi := 9) (Nat.zero_le _) (by omega) (by decide))]
theorem joke_st {σ : NS} {f q : Nat} (h : LQ σ) (hq : q < 10) : (nI q ≤ σ.be → ST σ (σ.up 3 (σ.be - nI q)) f) ∧ (¬ nI q ≤ σ.be → ST σ (σ.up 6 (σ.off + 1)) f) := by
  have iv := iv_joke h.1 (nI q)
  rw [joke_is hq] at iv
  refine ⟨fun c => ?_, fun c => ?_⟩
  · rw [if_pos c] at iv
    exact ST.same h ⟨iv, h.2⟩ rfl (fun _ _ => rfl) rfl
  · rw [if_neg c] at iv
    exact ST.same h ⟨iv, h.2⟩ rfl (fun _ _ => rfl) rfl
theorem lamp_is {σ : NS} {a b : Nat} (ha : a < 61) (hb : b < 10) : sp_lamp σ (20 + nI a) (nI b) = (0, σ.di, σ.wD (20 + nI a) (nI b)) := by
  unfold sp_lamp
  rw [if_neg]
  rintro (q | q)
  · rw [show 20 + nI a = nI (20 + a) from nI_add 20 a] at q
    exact no_out (lo := 20) (hi := 80) (by omega) (by omega) (by decide) q
  · exact no_out (lo := 0) (hi := 9) (by omega) (by omega) (by decide) q
theorem lamp_st {σ : NS} {f a b : Nat} (h : LQ σ) (ha : a < 61) (hb : b < 10) : ST σ (σ.wD (20 + nI a) (nI b)) f := by
  have iv := iv_lamp h.1 (20 + nI a) (nI b)
  rw [lamp_is ha hb] at iv
  exact ST.same h ⟨iv, h.2⟩ rfl (fun _ _ => rfl) rfl
abbrev tpP (σ : NS) (q : Nat) : Prop := if q = 0 then onS σ ≠ -1 ∧ σ.o 0 = -1 else σ.o 0 ≠ -1
abbrev tpS (σ : NS) (q : Nat) : NS := if q = 0 then σ.wO (obeg σ.o (σ.S (iN (onS σ)) 1)) else σ.wO (upd σ.o 3 (nI q))
theorem tap_is {σ : NS} {q : Nat} (hq : q < 4) : (tpP σ q → sp_tap σ (nI q) = (0, 1, tpS σ q)) ∧ (¬ tpP σ q → sp_tap σ (nI q) = (0, 0, σ.up 4 (σ.ms + 1))) := by
  have ho : ¬ out (nI q) 0 3 := no_out (lo := 0) (hi := 3) (Nat.zero_le _) (by omega) (by decide)
  unfold sp_tap
  rw [if_neg ho]
  by_cases c : q = 0
  · subst c
    rw [if_pos (show nI 0 = 0 from rfl)]
    refine ⟨fun p => ?_, fun p => ?_⟩
    · have p : onS σ ≠ -1 ∧ σ.o 0 = -1 := p
      rw [if_neg (fun z => z.elim p.1 (fun z => z p.2))]
      rfl
    · rw [if_pos]
      by_cases z : onS σ = -1
      · exact Or.inl z
      · exact Or.inr (fun z2 => p ⟨z, z2⟩)
  · have e1 : tpP σ q = (σ.o 0 ≠ -1) := if_neg c
    have e2 : tpS σ q = σ.wO (upd σ.o 3 (nI q)) := if_neg c
    rw [e1, e2, if_neg (nI_ne0 (by omega) (by omega))]
    exact ⟨fun p => if_neg p, fun p => if_pos (Decidable.of_not_not p)⟩
theorem tap_st {σ : NS} {f q : Nat} (h : LQ σ) (hq : q < 4) : (tpP σ q → ST σ (tpS σ q) f) ∧ ST σ (σ.up 4 (σ.ms + 1)) f := by
  refine ⟨fun p => ?_, ?_⟩
  · have iv := iv_tap h.1 (nI q)
    rw [(tap_is hq).1 p] at iv
    have iv : IV (tpS σ q) := iv
    by_cases c : q = 0
    · rw [show tpS σ q = σ.wO (obeg σ.o (σ.S (iN (onS σ)) 1)) from if_pos c] at iv ⊢
      exact ST.same h ⟨iv, h.2⟩ rfl (fun _ _ => rfl) rfl
    · rw [show tpS σ q = σ.wO (upd σ.o 3 (nI q)) from if_neg c] at iv ⊢
      exact ST.same h ⟨iv, h.2⟩ rfl (fun _ _ => rfl) rfl
  · exact ST.same h ⟨h.1.vW h.1.miB h.1.tiB h.1.lpB h.1.beB, h.2⟩ rfl (fun _ _ => rfl) rfl
theorem o_neg {σ : NS} (hv : IV σ) : σ.o 0 < 0 ↔ σ.o 0 = -1 := by
  rcases orc_is hv.oi with ⟨e, -⟩ | ⟨e, -⟩
  · rw [e]; decide
  · exact ⟨fun q => absurd q e, fun q => absurd (by rw [q]; decide) e⟩
theorem on_neg {σ : NS} (hv : IV σ) : onS σ < 0 ↔ onS σ = -1 := by
  have hn := hv.1.2.1
  rcases on_cases σ with e | ⟨i, hi, e⟩
  · rw [e]; decide
  · rw [e]; exact ⟨fun q => absurd q (nI_pos (by omega)), fun q => absurd q (nI_m1 (by omega))⟩
