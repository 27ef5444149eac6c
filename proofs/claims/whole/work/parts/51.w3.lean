/-! THE LAW: what holds between its steps; its reads of the script; the minute of each change -/
def LawI (G : GG) (ke mo out : Nat) (h : AH) (σ : NS) : Prop := (∃ A, KelW G h 1 ke A σ) ∧ (∃ A t sm, MoW G h 2 mo A t sm σ) ∧ (∃ g : Nat → Int64, h out = some (3, oOut g)) ∧ EZ G h ∧ IV σ
theorem nI_plus (a b : Nat) : nI a + nI b = nI (a + b) := (Int32.ofNat_add a b).symm
theorem hid_fr {h h2 : AH} {out : Nat} {y : AE} (ho : h out = some (3, y)) (f : FrT 1 (hide out h) h2) : ∀ a t x, h a = some (t, x) → t ≠ 1 → t ≠ 3 → h2 a = some (t, x) := fun a t x e n1 n3 => f.1 a t x ((hide_n (tag_ne e ho n3)).trans e) n1
theorem h0_out {h0 h : AH} {out tg : Nat} {y : AE} (hz0 : ∀ b t x, h0 b = some (t, x) → t = 0) (f : FrT tg h0 h) (n : tg ≠ 0) (ho : h out = some (3, y)) : h0 out = none := by
  cases e : h0 out with
  | none => rfl
  | some c9 =>
    obtain ⟨t, x⟩ := c9
    cases hz0 _ _ _ e
    have h9 := f.1 _ _ _ e n.symm
    rw [ho] at h9
    cases h9
theorem nI_z {n : Nat} (h : n < 4) (e : nI n = 0) : n = 0 := by
  have h9 : n = 0 ∨ n = 1 ∨ n = 2 ∨ n = 3 := by omega
  rcases h9 with rfl | rfl | rfl | rfl
  · rfl
  · exact absurd e (by decide)
  · exact absurd e (by decide)
  · exact absurd e (by decide)
theorem lgc_eq {x y : Int64} (h : x = y) : lg_cmp x y = 0 := by
  subst h
  unfold lg_cmp
  rw [if_neg (fun q => Int64.lt_irrefl q), if_pos rfl]
theorem law_more {L m : Nat} (hL : L ≤ 3584) (hm : m ≤ 3584) : (nI L - nI 7 < nI m) ↔ L < m + 7 := by
  by_cases h7 : 7 ≤ L
  · have e : nI L - nI 7 = nI (L - 7) := by
      have := nI_plus (L - 7) 7
      rw [show L - 7 + 7 = L by omega] at this
      rw [← this, Int32.add_sub_cancel]
    rw [e, Int32.lt_iff_toInt_lt, nI_toInt (by omega), nI_toInt (by omega)]
    omega
  · have hlt : nI L - nI 7 < nI 0 := by
      have h9 : L = 0 ∨ L = 1 ∨ L = 2 ∨ L = 3 ∨ L = 4 ∨ L = 5 ∨ L = 6 := by omega
      rcases h9 with rfl | rfl | rfl | rfl | rfl | rfl | rfl <;> decide
    have h0 : nI 0 ≤ nI m := nI_0le m (by omega)
    exact ⟨fun _ => by omega, fun _ => Int32.lt_of_lt_of_le hlt h0⟩
section LAWC
variable {p : Program} {l : Launch} {e : Env} {R : Room} {s : State} {m : MethodId} {args : Array Value} {below : List Frame} {meth : Method} {c : Code} {Q : State → Prop} {a0 : Array Value} {G : GG} {cc : ByteArray} {own : String} {nL tg : Nat} {h0 h : AH} {bc bs pc n : Nat} {L9 : List (Option Value)} {st : List Value}
/-- the script is read -/
theorem aw_sld (X : MX p l s m meth c s a0 G cc own nL) {b L : Nat} {xs : Nat → Int32} (SX : va_X b L xs s s.heap ∧ b < s.heap.size) {i : Int32} (j : Nat) (hd : decode cc pc = .ok (.iaload, 1)) (hn : pc + 1 = n) (hi : i = nI j) (hlt : j < L) (hL : L ≤ 3584) (k : AW p l e R s m args below meth c Q s G nL tg h0 h bc bs n L9 (.int (xs j) :: st)) : AW p l e R s m args below meth c Q s G nL tg h0 h bc bs pc L9 (.int i :: .ref b :: st) := by
  intro H locs cells slots ls r f z hc hs hl
  subst hi
  refine va_sld X.2.1 X.2.2.1 SX.1 SX.2 (Nat.not_le.mpr SX.2) z (vp_in_nI hlt (by omega)) hd ?_
  rw [nI_clamp (by omega), hn]
  exact k H locs cells slots ls r f z hc hs hl
theorem aw_slen (X : MX p l s m meth c s a0 G cc own nL) {b L : Nat} {xs : Nat → Int32} (SX : va_X b L xs s s.heap ∧ b < s.heap.size) (hd : decode cc pc = .ok (.arraylength, 1)) (hn : pc + 1 = n) (k : AW p l e R s m args below meth c Q s G nL tg h0 h bc bs n L9 (.int (nI L) :: st)) : AW p l e R s m args below meth c Q s G nL tg h0 h bc bs pc L9 (.ref b :: st) := by
  intro H locs cells slots ls r f z hc hs hl
  exact va_slen X.2.1 X.2.2.1 SX.1 SX.2 (Nat.not_le.mpr SX.2) z hd (by rw [hn]; exact k H locs cells slots ls r f z hc hs hl)
end LAWC

set_option maxHeartbeats 4000000 in
set_option maxRecDepth 100000 in
theorem lt_person (σ : NS) (x : Int32) (y : Int32) (z : Int32) (u : Int32) (v9 : Int32) (w9 : Int32) : (sp_person σ x y z u v9 w9).1 < 4 := by
  unfold sp_person
  repeat' split
  all_goals exact Nat.le_of_ble_eq_true rfl

set_option maxHeartbeats 4000000 in
set_option maxRecDepth 100000 in
theorem mi_person (σ : NS) (x : Int32) (y : Int32) (z : Int32) (u : Int32) (v9 : Int32) (w9 : Int32) : (sp_person σ x y z u v9 w9).2.2.mi = σ.mi := by
  unfold sp_person
  repeat' split
  all_goals rfl

set_option maxHeartbeats 4000000 in
set_option maxRecDepth 100000 in
theorem lt_figure (σ : NS) (x : Int32) (y : Int32) : (sp_figure σ x y).1 < 4 := by
  unfold sp_figure
  repeat' split
  all_goals exact Nat.le_of_ble_eq_true rfl

set_option maxHeartbeats 4000000 in
set_option maxRecDepth 100000 in
theorem mi_figure (σ : NS) (x : Int32) (y : Int32) : (sp_figure σ x y).2.2.mi = σ.mi := by
  unfold sp_figure
  repeat' split
  all_goals rfl

set_option maxHeartbeats 4000000 in
set_option maxRecDepth 100000 in
theorem lt_scene (σ : NS) (x : Int32) (y : Int32) (z : Int32) (u : Int32) (v9 : Int32) (w9 : Int32) : (sp_scene σ x y z u v9 w9).1 < 4 := by
  unfold sp_scene
  repeat' split
  all_goals exact Nat.le_of_ble_eq_true rfl

set_option maxHeartbeats 4000000 in
set_option maxRecDepth 100000 in
theorem mi_scene (σ : NS) (x : Int32) (y : Int32) (z : Int32) (u : Int32) (v9 : Int32) (w9 : Int32) : (sp_scene σ x y z u v9 w9).2.2.mi = σ.mi := by
  unfold sp_scene
  repeat' split
  all_goals rfl

set_option maxHeartbeats 4000000 in
set_option maxRecDepth 100000 in
theorem lt_length (σ : NS) (x : Int32) (y : Int32) : (sp_length σ x y).1 < 4 := by
  unfold sp_length
  repeat' split
  all_goals exact Nat.le_of_ble_eq_true rfl

set_option maxHeartbeats 4000000 in
set_option maxRecDepth 100000 in
theorem mi_length (σ : NS) (x : Int32) (y : Int32) : (sp_length σ x y).2.2.mi = σ.mi := by
  unfold sp_length
  repeat' split
  all_goals rfl

set_option maxHeartbeats 4000000 in
set_option maxRecDepth 100000 in
theorem lt_swap (σ : NS) (x : Int32) (y : Int32) : (sp_swap σ x y).1 < 4 := by
  unfold sp_swap
  repeat' split
  all_goals exact Nat.le_of_ble_eq_true rfl

set_option maxHeartbeats 4000000 in
set_option maxRecDepth 100000 in
theorem mi_swap (σ : NS) (x : Int32) (y : Int32) : (sp_swap σ x y).2.2.mi = σ.mi := by
  unfold sp_swap
  repeat' split
  all_goals rfl

set_option maxHeartbeats 4000000 in
set_option maxRecDepth 100000 in
theorem lt_lamp (σ : NS) (x : Int32) (y : Int32) : (sp_lamp σ x y).1 < 4 := by
  unfold sp_lamp
  repeat' split
  all_goals exact Nat.le_of_ble_eq_true rfl

set_option maxHeartbeats 4000000 in
set_option maxRecDepth 100000 in
theorem mi_lamp (σ : NS) (x : Int32) (y : Int32) : (sp_lamp σ x y).2.2.mi = σ.mi := by
  unfold sp_lamp
  repeat' split
  all_goals rfl

set_option maxHeartbeats 4000000 in
set_option maxRecDepth 100000 in
theorem lt_grip (σ : NS) (x : Int32) : (sp_grip σ x).1 < 4 := by
  unfold sp_grip
  repeat' split
  all_goals exact Nat.le_of_ble_eq_true rfl

set_option maxHeartbeats 4000000 in
set_option maxRecDepth 100000 in
theorem mi_grip (σ : NS) (x : Int32) : (sp_grip σ x).2.2.mi = σ.mi := by
  unfold sp_grip
  repeat' split
  all_goals rfl

set_option maxHeartbeats 4000000 in
set_option maxRecDepth 100000 in
theorem lt_move (σ : NS) (x : Int32) (y : Int32) : (sp_move σ x y).1 < 4 := by
  unfold sp_move
  repeat' split
  all_goals exact Nat.le_of_ble_eq_true rfl

set_option maxHeartbeats 4000000 in
set_option maxRecDepth 100000 in
theorem mi_move (σ : NS) (x : Int32) (y : Int32) : (sp_move σ x y).2.2.mi = σ.mi := by
  unfold sp_move
  repeat' split
  all_goals rfl

set_option maxHeartbeats 4000000 in
set_option maxRecDepth 100000 in
theorem lt_lift (σ : NS) (x : Int32) (y : Int32) : (sp_lift σ x y).1 < 4 := by
  unfold sp_lift
  repeat' split
  all_goals exact Nat.le_of_ble_eq_true rfl

set_option maxHeartbeats 4000000 in
set_option maxRecDepth 100000 in
theorem mi_lift (σ : NS) (x : Int32) (y : Int32) : (sp_lift σ x y).2.2.mi = σ.mi := by
  unfold sp_lift
  repeat' split
  all_goals rfl

set_option maxHeartbeats 4000000 in
set_option maxRecDepth 100000 in
theorem lt_plant (σ : NS) (x : Int32) : (sp_plant σ x).1 < 4 := by
  unfold sp_plant
  repeat' split
  all_goals exact Nat.le_of_ble_eq_true rfl

set_option maxHeartbeats 4000000 in
set_option maxRecDepth 100000 in
theorem mi_plant (σ : NS) (x : Int32) : (sp_plant σ x).2.2.mi = σ.mi := by
  unfold sp_plant
  repeat' split
  all_goals rfl

set_option maxHeartbeats 4000000 in
set_option maxRecDepth 100000 in
theorem lt_hand (σ : NS) (x : Int32) : (sp_hand σ x).1 < 4 := by
  unfold sp_hand
  repeat' split
  all_goals exact Nat.le_of_ble_eq_true rfl

set_option maxHeartbeats 4000000 in
set_option maxRecDepth 100000 in
theorem mi_hand (σ : NS) (x : Int32) : (sp_hand σ x).2.2.mi = σ.mi := by
  unfold sp_hand
  repeat' split
  all_goals rfl

set_option maxHeartbeats 4000000 in
set_option maxRecDepth 100000 in
theorem lt_away (σ : NS) (x : Int32) : (sp_away σ x).1 < 4 := by
  unfold sp_away
  repeat' split
  all_goals exact Nat.le_of_ble_eq_true rfl

set_option maxHeartbeats 4000000 in
set_option maxRecDepth 100000 in
theorem mi_away (σ : NS) (x : Int32) : (sp_away σ x).2.2.mi = σ.mi := by
  unfold sp_away
  repeat' split
  all_goals rfl

set_option maxHeartbeats 4000000 in
set_option maxRecDepth 100000 in
theorem lt_tap (σ : NS) (x : Int32) : (sp_tap σ x).1 < 4 := by
  unfold sp_tap
  repeat' split
  all_goals exact Nat.le_of_ble_eq_true rfl

set_option maxHeartbeats 4000000 in
set_option maxRecDepth 100000 in
theorem mi_tap (σ : NS) (x : Int32) : (sp_tap σ x).2.2.mi = σ.mi := by
  unfold sp_tap
  repeat' split
  all_goals rfl

set_option maxHeartbeats 4000000 in
set_option maxRecDepth 100000 in
theorem lt_speak (σ : NS) (x : Int32) (y : Int32) (z : Int32) (u : Int32) : (sp_speak σ x y z u).1 < 4 := by
  unfold sp_speak
  repeat' split
  all_goals exact Nat.le_of_ble_eq_true rfl

set_option maxHeartbeats 4000000 in
set_option maxRecDepth 100000 in
theorem lt_joke (σ : NS) (x : Int32) : (sp_joke σ x).1 < 4 := by
  unfold sp_joke
  repeat' split
  all_goals exact Nat.le_of_ble_eq_true rfl

set_option maxHeartbeats 4000000 in
set_option maxRecDepth 100000 in
theorem mi_joke (σ : NS) (x : Int32) : (sp_joke σ x).2.2.mi = σ.mi := by
  unfold sp_joke
  repeat' split
  all_goals rfl

set_option maxHeartbeats 4000000 in
set_option maxRecDepth 100000 in
theorem lt_offer (σ : NS) : (sp_offer σ).1 < 4 := by
  unfold sp_offer
  repeat' split
  all_goals exact Nat.le_of_ble_eq_true rfl

set_option maxHeartbeats 4000000 in
set_option maxRecDepth 100000 in
theorem lt_pass (σ : NS) (x : Int32) : (sp_pass σ x).1 < 4 := by
  unfold sp_pass
  repeat' split
  all_goals exact Nat.le_of_ble_eq_true rfl

set_option maxHeartbeats 4000000 in
set_option maxRecDepth 100000 in
theorem lt_knows (σ : NS) (x : Int32) (y : Int32) : (sp_knows σ x y).1 < 4 := by
  unfold sp_knows
  repeat' split
  all_goals exact Nat.le_of_ble_eq_true rfl

set_option maxHeartbeats 4000000 in
set_option maxRecDepth 100000 in
theorem mi_knows (σ : NS) (x : Int32) (y : Int32) : (sp_knows σ x y).2.2.mi = σ.mi := by
  unfold sp_knows
  repeat' split
  all_goals rfl

set_option maxHeartbeats 4000000 in
set_option maxRecDepth 100000 in
theorem lt_ofFigure (σ : NS) (x : Int32) (y : Int32) : (sp_ofFigure σ x y).1 < 4 := by
  unfold sp_ofFigure
  repeat' split
  all_goals exact Nat.le_of_ble_eq_true rfl

set_option maxHeartbeats 4000000 in
set_option maxRecDepth 100000 in
theorem mi_ofFigure (σ : NS) (x : Int32) (y : Int32) : (sp_ofFigure σ x y).2.2.mi = σ.mi := by
  unfold sp_ofFigure
  repeat' split
  all_goals rfl

set_option maxHeartbeats 4000000 in
set_option maxRecDepth 100000 in
theorem lt_ofScene (σ : NS) (x : Int32) (y : Int32) : (sp_ofScene σ x y).1 < 4 := by
  unfold sp_ofScene
  repeat' split
  all_goals exact Nat.le_of_ble_eq_true rfl

set_option maxHeartbeats 4000000 in
set_option maxRecDepth 100000 in
theorem mi_ofScene (σ : NS) (x : Int32) (y : Int32) : (sp_ofScene σ x y).2.2.mi = σ.mi := by
  unfold sp_ofScene
  repeat' split
  all_goals rfl

set_option maxHeartbeats 4000000 in
set_option maxRecDepth 100000 in
theorem lt_at (σ : NS) (x : Int32) : (sp_at σ x).1 < 4 := by
  unfold sp_at
  repeat' split
  all_goals exact Nat.le_of_ble_eq_true rfl

set_option maxHeartbeats 4000000 in
set_option maxRecDepth 100000 in
theorem mi_at (σ : NS) (x : Int32) : (sp_at σ x).2.2.mi = σ.mi := by
  unfold sp_at
  repeat' split
  all_goals rfl

set_option maxHeartbeats 4000000 in
set_option maxRecDepth 100000 in
theorem lt_sound (σ : NS) (x : Int32) : (sp_sound σ x).1 < 4 := by
  unfold sp_sound
  repeat' split
  all_goals exact Nat.le_of_ble_eq_true rfl

set_option maxHeartbeats 4000000 in
set_option maxRecDepth 100000 in
theorem mi_sound (σ : NS) (x : Int32) : (sp_sound σ x).2.2.mi = σ.mi := by
  unfold sp_sound
  repeat' split
  all_goals rfl

set_option maxHeartbeats 4000000 in
set_option maxRecDepth 100000 in
theorem lt_many (σ : NS) (x : Int32) : (sp_many σ x).1 < 4 := by
  unfold sp_many
  repeat' split
  all_goals exact Nat.le_of_ble_eq_true rfl

set_option maxHeartbeats 4000000 in
set_option maxRecDepth 100000 in
theorem mi_many (σ : NS) (x : Int32) : (sp_many σ x).2.2.mi = σ.mi := by
  unfold sp_many
  repeat' split
  all_goals rfl

set_option maxHeartbeats 4000000 in
set_option maxRecDepth 100000 in
theorem lt_liftFor (σ : NS) (x : Int32) (y : Int32) : (sp_liftFor σ x y).1 < 4 := by
  unfold sp_liftFor
  repeat' split
  all_goals exact Nat.le_of_ble_eq_true rfl

set_option maxHeartbeats 4000000 in
set_option maxRecDepth 100000 in
theorem mi_liftFor (σ : NS) (x : Int32) (y : Int32) : (sp_liftFor σ x y).2.2.mi = σ.mi := by
  unfold sp_liftFor
  repeat' split
  all_goals rfl

set_option maxHeartbeats 4000000 in
set_option maxRecDepth 100000 in
theorem adv_offer {σ : NS} (hv : IV σ) : iN σ.mi + (if (sp_offer σ).1 = 0 then 3 else 0) ≤ iN (sp_offer σ).2.2.mi := by
  unfold sp_offer
  by_cases c : ¬ σ.mi + 3 ≤ 540
  · rw [if_pos c]
    show iN σ.mi + (if (1 : Nat) = 0 then 3 else 0) ≤ iN σ.mi
    rw [if_neg (by decide)]
    exact Nat.le_refl _
  · rw [if_neg c]
    obtain ⟨M, hM9, hM⟩ := mi_nat hv
    have hM2 : (ofS σ).mi = nI M := hM
    have h9 : M + 3 ≤ 540 := mi_sum (k := 3) hM hM9 rfl (by decide) (Decidable.of_not_not c)
    have h3 := (IV_go (sp := 0) (IV_ofS hv) hM2 3 h9).2
    generalize goN 0 3 (ofS σ) = τ at h3 ⊢
    show iN σ.mi + (if (0 : Nat) = 0 then 3 else 0) ≤ iN τ.mi
    rw [if_pos rfl, h3, hM, iN_nI (by omega), iN_nI (by omega)]
    exact Nat.le_refl _
set_option maxHeartbeats 4000000 in
set_option maxRecDepth 100000 in
theorem adv_pass {σ : NS} (hv : IV σ) (x : Int32) : iN σ.mi + (if (sp_pass σ x).1 = 0 then iN x else 0) ≤ iN (sp_pass σ x).2.2.mi := by
  unfold sp_pass
  by_cases c : out x 1 99
  · rw [if_pos c]
    show iN σ.mi + (if (1 : Nat) = 0 then iN x else 0) ≤ iN σ.mi
    rw [if_neg (by decide)]
    exact Nat.le_refl _
  · rw [if_neg c]
    by_cases c2 : ¬ σ.mi + x ≤ 540
    · rw [if_pos c2]
      show iN σ.mi + (if (2 : Nat) = 0 then iN x else 0) ≤ iN σ.mi
      rw [if_neg (by decide)]
      exact Nat.le_refl _
    · rw [if_neg c2]
      obtain ⟨M, hM9, hM⟩ := mi_nat hv
      have hx := pos_in (a := 1) (n := 99) c (by decide) (by decide)
      have h4 := mi_sum hM hM9 hx.1 hx.2 (Decidable.of_not_not c2)
      have h3 := (IV_go (sp := 0) hv hM (iN x) h4).2
      generalize goN 0 (iN x) σ = τ at h3 ⊢
      show iN σ.mi + (if (0 : Nat) = 0 then iN x else 0) ≤ iN τ.mi
      rw [if_pos rfl, h3, hM, iN_nI (by omega), iN_nI (by omega)]
      exact Nat.le_refl _
set_option maxHeartbeats 4000000 in
set_option maxRecDepth 100000 in
theorem adv_speak {σ : NS} (hv : IV σ) (x y z u : Int32) : iN σ.mi + (if (sp_speak σ x y z u).1 = 0 then iN z else 0) ≤ iN (sp_speak σ x y z u).2.2.mi := by
  unfold sp_speak
  by_cases c1 : ¬ σ.isP x ∨ ¬ σ.isP y
  · rw [if_pos c1]
    show iN σ.mi + (if (1 : Nat) = 0 then iN z else 0) ≤ iN σ.mi
    rw [if_neg (by decide)]
    exact Nat.le_refl _
  · rw [if_neg c1]
    by_cases c2 : x = y ∨ out z 1 9 ∨ out u (-1) 1
    · rw [if_pos c2]
      show iN σ.mi + (if (2 : Nat) = 0 then iN z else 0) ≤ iN σ.mi
      rw [if_neg (by decide)]
      exact Nat.le_refl _
    · rw [if_neg c2]
      by_cases c3 : ¬ holdsP (setF σ.F σ.nf) x ∨ 80 ≤ σ.ti ∨ ¬ σ.mi + z ≤ 540
      · rw [if_pos c3]
        show iN σ.mi + (if (3 : Nat) = 0 then iN z else 0) ≤ iN σ.mi
        rw [if_neg (by decide)]
        exact Nat.le_refl _
      · rw [if_neg c3]
        obtain ⟨M, hM9, hM⟩ := mi_nat hv
        have hz9 : ¬ out z 1 9 := fun q => c2 (Or.inr (Or.inl q))
        have hz := pos_in (a := 1) (n := 9) hz9 (by decide) (by decide)
        have hn8 := hv.1.1
        have hx := (cat_in (Decidable.of_not_not (fun q => c1 (Or.inl q)) : σ.isP x) (by omega)).2
        have h4 := mi_sum hM hM9 hz.1 hz.2 (Decidable.of_not_not (fun q => c3 (Or.inr (Or.inr q))))
        have h5 := IV_spL (y := y) (u := u) hv hx (nout hz9)
        have h6 : (spL σ x y z u).mi = nI M := (spL_mi σ x y z u).trans hM
        have h3 := (IV_go (sp := 1) h5 h6 (iN z) h4).2
        generalize goN 1 (iN z) (spL σ x y z u) = τ at h3 ⊢
        show iN σ.mi + (if (0 : Nat) = 0 then iN z else 0) ≤ iN τ.mi
        rw [if_pos rfl, h3, hM, iN_nI (by omega), iN_nI (by omega)]
        exact Nat.le_refl _
theorem IV.iN540 {σ : NS} (hv : IV σ) : iN σ.mi ≤ 540 := by
  obtain ⟨M, hM9, hM⟩ := mi_nat hv
  rw [hM, iN_nI (by omega)]
  exact hM9
