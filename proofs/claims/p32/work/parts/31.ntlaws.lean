/-! THE NIGHT THAT THE LAW MAKES -/
def blw (v n : Int32) : Int32 := (v &&& 2147483647) - (v &&& 2147483647) / n * n
theorem blw_in (v : Int32) {N : Nat} (h0 : 0 < N) (hN : N < 2 ^ 31) : ∃ j, j < N ∧ blw v (nI N) = nI j := by
  obtain ⟨j, hj, e⟩ := pk_andE v (m := 2147483647) 31 (by decide)
  refine ⟨j % N, Nat.mod_lt _ h0, ?_⟩
  unfold blw
  rw [e, pk_rem (by omega) h0 hN]
theorem no_out {k lo hi : Nat} (h1 : lo ≤ k) (h2 : k ≤ hi) (hh : hi < 1000) : ¬ out (nI k) (nI lo) (nI hi) := fun q => by
  rcases q with q | q
  · exact absurd q (nI_nlt h1 (by omega))
  · exact absurd q (nI_nlt h2 (by omega))
def N0 (σ : NS) (a b c : Nat) : Prop := IV σ ∧ σ.np = a ∧ σ.nf = b ∧ σ.ns = c ∧ σ.di = 50 ∧ σ.v = ns0.v ∧ σ.o = ns0.o ∧ ∀ k, k < σ.nf → σ.F k 2 = 0 ∧ σ.F k 3 = 0
theorem n0_0 : N0 ns0 0 0 0 := ⟨IV_ns0, rfl, rfl, rfl, rfl, rfl, rfl, fun k hk => absurd hk (Nat.not_lt_zero _)⟩
theorem n0_person {σ : NS} {a : Nat} (h : N0 σ a 0 0) (ha : a < 6) {a0 a1 a2 a3 a4 : Nat} {w9 : Int32} (h1 : a1 < 2) (h2 : a2 < 4) (h3 : a3 < 10) (h0 : a0 < 40) (h4 : a4 < 60) (hw : w9 = 0 ∨ w9 = 1) :
    (sp_person σ (nI a1) (nI a2) (nI a3) (nI a0) (nI a0 + 1 + nI a4) w9).1 = 0 ∧ N0 (sp_person σ (nI a1) (nI a2) (nI a3) (nI a0) (nI a0 + 1 + nI a4) w9).2.2 (a + 1) 0 0 := by
  have hd : nI a0 + 1 + nI a4 = nI (a0 + 1 + a4) := by rw [nI_1, nI_add]
  have iv := iv_person h.1 (nI a1) (nI a2) (nI a3) (nI a0) (nI a0 + 1 + nI a4) w9 hw
  have e : sp_person σ (nI a1) (nI a2) (nI a3) (nI a0) (nI a0 + 1 + nI a4) w9 = (0, nI σ.np, σ.wP (σ.np + 1) (upF σ.P σ.np (r6 (nI a1) (nI a2) (nI a3) (nI a0) (nI a0 + 1 + nI a4) w9))) := by
    have hn : σ.np < 8 := by rw [h.2.1]; omega
    unfold sp_person
    rw [if_neg ?_, if_neg (fun q => q hn)]
    rintro (q | q | q | q | q | q)
    · exact no_out (lo := 0) (hi := 1) (Nat.zero_le _) (by omega) (by decide) q
    · exact no_out (lo := 0) (hi := 3) (Nat.zero_le _) (by omega) (by decide) q
    · exact no_out (lo := 0) (hi := 9) (Nat.zero_le _) (by omega) (by decide) q
    · exact no_out (lo := 0) (hi := 99) (Nat.zero_le _) (by omega) (by decide) q
    · rw [hd] at q
      exact absurd q (nI_ge (by omega) (by omega))
    · rw [hd] at q
      exact q (show nI (a0 + 1 + a4) ≤ nI 100 from nI_le (by omega) (by decide))
  rw [e] at iv ⊢
  obtain ⟨-, p1, p2, p3, p4, p5, p6, p7⟩ := h
  exact ⟨rfl, iv, by show σ.np + 1 = a + 1; rw [p1], p2, p3, p4, p5, p6, p7⟩
theorem n0_figure {σ : NS} {a b : Nat} (h : N0 σ a b 0) (hb : b < 5) {x y : Nat} (hx : x < a) (hy : y < 81) :
    (sp_figure σ (nI x) (10 + nI y)).1 = 0 ∧ N0 (sp_figure σ (nI x) (10 + nI y)).2.2 a (b + 1) 0 := by
  have iv := iv_figure h.1 (nI x) (10 + nI y)
  have ey : 10 + nI y = nI (10 + y) := nI_add 10 y
  have h8 := h.1.1.1
  have hp : σ.isP (nI x) := nI_isP (by rw [h.2.1]; exact hx) (by omega)
  have e : sp_figure σ (nI x) (10 + nI y) = (0, nI σ.nf, σ.wF (σ.nf + 1) (upF σ.F σ.nf (r6 (nI x) (10 + nI y) 0 0 (-1) 0))) := by
    unfold sp_figure
    rw [if_neg (fun q => q hp), if_neg (by rw [ey]; exact no_out (lo := 10) (hi := 90) (by omega) (by omega) (by decide)), if_neg (fun q => q (by rw [h.2.2.1]; omega))]
  rw [e] at iv ⊢
  obtain ⟨-, p1, p2, p3, p4, p5, p6, p7⟩ := h
  refine ⟨rfl, iv, p1, by show σ.nf + 1 = b + 1; rw [p2], p3, p4, p5, p6, fun k hk => ?_⟩
  show upF σ.F σ.nf (r6 (nI x) (10 + nI y) 0 0 (-1) 0) k 2 = 0 ∧ upF σ.F σ.nf (r6 (nI x) (10 + nI y) 0 0 (-1) 0) k 3 = 0
  by_cases q : k = σ.nf
  · rw [show upF σ.F σ.nf (r6 (nI x) (10 + nI y) 0 0 (-1) 0) k = r6 (nI x) (10 + nI y) 0 0 (-1) 0 from if_pos q]
    exact ⟨rfl, rfl⟩
  · rw [show upF σ.F σ.nf (r6 (nI x) (10 + nI y) 0 0 (-1) 0) k = σ.F k from if_neg q]
    have hk9 : k < σ.nf + 1 := hk
    exact p7 k (by omega)
theorem nI_and (a b : Nat) : nI a &&& nI b = nI (a &&& b) := Int32.toBitVec_inj.mp (by
  rw [Int32.toBitVec_and]
  exact BitVec.ofNat_and.symm)
theorem nI_or (a b : Nat) : nI a ||| nI b = nI (a ||| b) := Int32.toBitVec_inj.mp (by
  rw [Int32.toBitVec_or]
  exact BitVec.ofNat_or.symm)
/-- a cast: one, and some of the others -/
theorem cast_is {a w e1 e2 : Nat} (ha : a ≤ 6) (hw : w < a) (h1 : e1 < 2 ^ a) : ∃ c, (1 : Int32) <<< (nI w &&& 31) ||| nI e1 &&& nI e2 = nI c ∧ 0 < c ∧ c < 2 ^ a := by
  have hle : e1 &&& e2 < 2 ^ a := Nat.lt_of_le_of_lt Nat.and_le_left h1
  have hlt : 2 ^ w < 2 ^ a := Nat.pow_lt_pow_right (by decide) hw
  refine ⟨2 ^ w ||| (e1 &&& e2), by rw [pw2 w (by omega), nI_and, nI_or], ?_, Nat.or_lt_two_pow hlt hle⟩
  exact Nat.lt_of_lt_of_le (Nat.two_pow_pos w) Nat.left_le_or
theorem n0_scene {σ : NS} {a c : Nat} (h : N0 σ a 5 c) (hc : c < 8) (ha : a ≤ 6) {y m w e1 e2 l : Nat} {d9 t9 : Int32} (hy : y < 40) (hm : m < 4) (hw : w < a) (h1 : e1 < 2 ^ a) (hl : l < 86) (hd : d9 = -1 ∨ d9 = nI w) (ht : t9 = -1 ∨ t9 = nI w) :
    (sp_scene σ (20 + nI y) (nI m) ((1 : Int32) <<< (nI w &&& 31) ||| nI e1 &&& nI e2) (5 + nI l) d9 t9).1 = 0 ∧ N0 (sp_scene σ (20 + nI y) (nI m) ((1 : Int32) <<< (nI w &&& 31) ||| nI e1 &&& nI e2) (5 + nI l) d9 t9).2.2 a 5 (c + 1) := by
  obtain ⟨ca, ec, hc0, hc1⟩ := cast_is (e2 := e2) ha hw h1
  have hh : holdsP ((1 : Int32) <<< (nI w &&& 31) ||| nI e1 &&& nI e2) (nI w) := by
    rw [holds_bt (by omega), b_or, b_one (by omega) (by omega)]
    simp
  generalize (1 : Int32) <<< (nI w &&& 31) ||| nI e1 &&& nI e2 = z9 at ec hh ⊢
  have iv := iv_scene h.1 (20 + nI y) (nI m) z9 (5 + nI l) d9 t9
  have ey : 20 + nI y = nI (20 + y) := nI_add 20 y
  have el : 5 + nI l = nI (5 + l) := nI_add 5 l
  have hp : 2 ^ a ≤ 2 ^ 6 := Nat.pow_le_pow_right (by decide) ha
  have e : sp_scene σ (20 + nI y) (nI m) z9 (5 + nI l) d9 t9 = (0, nI σ.ns, σ.wS (σ.ns + 1) (upF σ.S σ.ns (r6 (20 + nI y) (nI m) z9 (5 + nI l) d9 t9))) := by
    unfold sp_scene
    rw [if_neg ?_, if_neg (fun q => q (by rw [h.2.2.2.1]; omega))]
    rintro (q | q | q | q | q | q)
    · rw [ey] at q
      exact no_out (lo := 0) (hi := 100) (Nat.zero_le _) (by omega) (by decide) q
    · exact no_out (lo := 0) (hi := 3) (Nat.zero_le _) (by omega) (by decide) q
    · refine q ⟨by rw [ec]; exact nI_lt (a := 0) hc0 (by omega), ?_⟩
      rw [h.2.1, pw2 a (by omega), ec]
      exact nI_lt hc1 (by omega)
    · rw [el] at q
      exact q ⟨show nI 5 ≤ nI (5 + l) from nI_le (by omega) (by omega), show nI (5 + l) ≤ nI 90 from nI_le (by omega) (by decide)⟩
    · rcases hd with hd | hd
      · exact q (Or.inl hd)
      · exact q (Or.inr (by rw [hd]; exact hh))
    · rcases ht with ht | ht
      · exact q (Or.inl ht)
      · exact q (Or.inr (by rw [ht]; exact hh))
  rw [e] at iv ⊢
  obtain ⟨-, p1, p2, p3, p4, p5, p6, p7⟩ := h
  exact ⟨rfl, iv, p1, p2, by show σ.ns + 1 = c + 1; rw [p3], p4, p5, p6, p7⟩
/-- what is made of a script -/
def NI (σ : NS) : Prop := IV σ ∧ EX σ.F σ.nf ∧ σ.nf = 5 ∧ 2 ≤ σ.np ∧ σ.di = 50 ∧ σ.v = ns0.v ∧ σ.o = ns0.o ∧ ∀ k, k < 5 → σ.F k 2 = 0
theorem n0_ni {σ : NS} {a c : Nat} (h : N0 σ a 5 c) (ha : 2 ≤ a) : NI σ := by
  obtain ⟨p0, p1, p2, p3, p4, p5, p6, p7⟩ := h
  refine ⟨p0, ⟨fun i j hi _ _ q => absurd (p7 i hi).2 q, fun i j hi _ _ _ => Or.inl (p7 i hi).2, fun i hi => ⟨fun q => ?_, fun q => ?_⟩⟩, p2, by omega, p4, p5, p6, fun k hk => (p7 k (by omega)).1⟩
  · rw [(p7 i hi).2] at q; exact absurd q (by decide)
  · rw [(p7 i hi).2] at q; exact absurd q (by decide)
