/-! OFFERINGS, PASSING, SPEECH; WHAT IS TOLD -/
def ofS (σ : NS) : NS := σ.up 3 (if σ.be + 5 < 30 then σ.be + 5 else 30)
def sp_offer (σ : NS) : Rs := if ¬ σ.mi + 3 ≤ 540 then (1, 0, σ) else (0, (goN 0 3 (ofS σ)).be, goN 0 3 (ofS σ))
def sp_pass (σ : NS) (x : Int32) : Rs := if out x 1 99 then (1, 0, σ) else if ¬ σ.mi + x ≤ 540 then (2, 0, σ) else (0, (goN 0 (iN x) σ).o 4 - σ.o 4, goN 0 (iN x) σ)
def spE (σ : NS) (x z : Int32) : Int32 := 1 + z * absI (σ.P (iN x) 2 - σ.lp) / 3
def spM (σ : NS) (x z : Int32) : NS := (σ.up 1 (if σ.ti + spE σ x z < 100 then σ.ti + spE σ x z else 100)).up 2 (σ.P (iN x) 2)
def lvl (r q : Int32) : Int32 := if r < q then 1 else if q < r then -1 else 0
def spL (σ : NS) (x y z u : Int32) : NS := if u = lvl (σ.P (iN x) 1) (σ.P (iN y) 1) then spM σ x z else (spM σ x z).up 5 (σ.sl + 1)
def sp_speak (σ : NS) (x y z u : Int32) : Rs := if ¬ σ.isP x ∨ ¬ σ.isP y then (1, 0, σ) else if x = y ∨ out z 1 9 ∨ out u (-1) 1 then (2, 0, σ) else
  if ¬ holdsP (setF σ.F σ.nf) x ∨ 80 ≤ σ.ti ∨ ¬ σ.mi + z ≤ 540 then (3, 0, σ) else (0, (goN 1 (iN z) (spL σ x y z u)).ti, goN 1 (iN z) (spL σ x y z u))
section GEN
variable {p : Program} {l : Launch} {e : Env} {R : Room} {s : State} {m : MethodId} {args : Array Value} {below : List Frame} {meth : Method} {c : Code} {Q : State → Prop} {s0 : State} {G : GG} {nL tg : Nat} {h0 h : AH} {bc bs n : Nat} {L : List (Option Value)} {st : List Value}
/-- behind a change the store's form no longer matters, only what it is a world of -/
theorem aw_gen {ke : Nat} {A : KA} {σ1 : NS} (w : KelW G h tg ke A σ1) (k : ∀ (h2 : AH) (σ2 : NS), σ2 = σ1 → KelW G h2 tg ke A σ2 → AW p l e R s m args below meth c Q s0 G nL tg h0 h2 bc bs n L st) : AW p l e R s m args below meth c Q s0 G nL tg h0 h bc bs n L st := k h σ1 rfl w
end GEN
theorem pos_in {x : Int32} {a : Int32} {n : Nat} (h : ¬ (x < a ∨ nI n < x)) (h0 : 0 ≤ a) (hn : n < 1000) : x = nI (iN x) ∧ iN x < 1000 := by
  have h1 : a ≤ x := Int32.not_lt.mp (fun q => h (Or.inl q))
  have h2 : x ≤ nI n := Int32.not_lt.mp (fun q => h (Or.inr q))
  have h3 := nI_iN (n := n + 1) (Int32.le_trans h0 h1) (by
    rcases Int32.lt_or_eq_of_le h2 with q | q
    · exact Int32.lt_trans q (nI_lt (Nat.lt_succ_self n) (by omega))
    · rw [q]; exact nI_lt (Nat.lt_succ_self n) (by omega)) (by omega)
  exact ⟨h3.1, by omega⟩

set_option maxHeartbeats 4000000 in
set_option maxRecDepth 100000 in
theorem k_X6_offer {l : Launch} {s0 : State} {a0 : Array Value} {G : GG} (X : CX l s0 a0 G) {h : AH} {tg ke : Nat} {A : KA} {σ : NS} (htg : tg ≠ 0) (w : KelW G h tg ke A σ) (hs0 : spd σ.o)  : ConX l s0 G yX6_offer cX6_offer 1 (some .int) 6 1 6 tg [.ref ke] h (PoN G tg ke (sp_offer σ)) (PoX h σ [eS] (sp_offer σ)) := by
  refine ConX.of X (by decide +kernel) [some (.ref ke)] rfl (Nat.le_of_ble_eq_true rfl) (fun p e s m below meth c X hnm hret hE => ?_)
  have w0 := w
  obtain ⟨hke, hpw, hsw, hoc, hd1, hd2, hd3, hd4⟩ := w
  have hpl := hpw.1
  have hlp := hpw.2.1
  have hls := hpw.2.2.1
  have hP := hpw.2.2.2.1
  have hS := hpw.2.2.2.2.1
  have hn8 := hpw.2.2.2.2.2.1
  have hn10 := hpw.2.2.2.2.2.2.1
  have hsc := hsw.1
  have hlf := hsw.2.1
  have hF := hsw.2.2.1
  have hn12 := hsw.2.2.2.1
  refine aw_ald0 X dX6_offer_0 rfl ?_
  refine aw_get X fd_X6_30 dX6_offer_1 rfl hke rfl ?_
  refine aw_iconst X (3) dX6_offer_4 (by decide) rfl ?_
  refine aw_iadd X dX6_offer_5 rfl ?_
  refine aw_sipush X (540) dX6_offer_6 (by decide) rfl ?_
  refine aw_icmp_le (n2 := 23) X dX6_offer_9 rfl rfl (fun c9 => ?_) (fun c9 => ?_)
  · refine aw_ald0 X dX6_offer_23 rfl ?_
    refine aw_bipush X (30) dX6_offer_24 (by decide) rfl ?_
    refine aw_ald0 X dX6_offer_26 rfl ?_
    refine aw_get X fd_X6_40 dX6_offer_27 rfl hke rfl ?_
    refine aw_iconst X (5) dX6_offer_30 (by decide) rfl ?_
    refine aw_iadd X dX6_offer_31 rfl ?_
    refine aw_mmin X dX6_offer_32 rfl ⟨ml_X6_268, mm_min⟩ (Nat.le_of_ble_eq_true rfl) (Nat.le_of_ble_eq_true rfl) ?_
    refine aw_put X fd_X6_40 fw_X6_6 dX6_offer_35 rfl htg hke rfl rfl (Nat.le_of_ble_eq_true rfl) ?_
    have w1 := w0.own (upd σ.v 3 (if σ.be + 5 < 30 then σ.be + 5 else 30))
    refine aw_ald0 X dX6_offer_38 rfl ?_
    refine aw_iconst X (3) dX6_offer_39 (by decide) rfl ?_
    refine aw_iconst X (0) dX6_offer_40 (by decide) rfl ?_
    refine aw_callV X dX6_offer_41 rfl (k_X6_goBy X.1 htg w1 hs0 (m9 := 3) rfl (by decide) 0) cmX6_goBy ml_X6_277 rfl w1.1 rfl rfl (Nat.le_of_ble_eq_true rfl) ⟨Nat.le_of_ble_eq_true rfl, Nat.le_of_ble_eq_true rfl⟩ (fun r h2 hq hf => ?_)
    obtain ⟨rfl, hw2, hs2⟩ := hq
    refine aw_ald0 X dX6_offer_44 rfl ?_
    refine aw_get X fd_X6_40 dX6_offer_45 rfl hw2.1 rfl ?_
    exact aw_vx (aw_iret X hret rfl dX6_offer_48 (PoN.mk (σ2 := goN 0 3 (ofS σ)) (by unfold sp_offer; rw [if_neg (fun q => q c9)]; rfl) (by exact hw2)))
  · exact aw_throw X th_eS (List.mem_of_getElem? (i := 9) rfl) hE dX6_offer_12 dX6_offer_15 (Or.inr ⟨dX6_offer_16, dX6_offer_19, dX6_offer_22⟩) (by decide) (Nat.le_of_ble_eq_true rfl) (PoX.mk (by unfold sp_offer; rw [if_pos c9]) rfl)

set_option maxHeartbeats 4000000 in
set_option maxRecDepth 100000 in
theorem k_X6_pass {l : Launch} {s0 : State} {a0 : Array Value} {G : GG} (X : CX l s0 a0 G) {h : AH} {tg ke : Nat} {A : KA} {σ : NS} (htg : tg ≠ 0) (w : KelW G h tg ke A σ) (hs0 : spd σ.o) (x : Int32)  : ConX l s0 G yX6_pass cX6_pass 3 (some .int) 6 1 6 tg [.ref ke, .int x] h (PoN G tg ke (sp_pass σ x)) (PoX h σ [eA, eS] (sp_pass σ x)) := by
  refine ConX.of X (by decide +kernel) [some (.ref ke), some (.int x), none] rfl (Nat.le_of_ble_eq_true rfl) (fun p e s m below meth c X hnm hret hE => ?_)
  have w0 := w
  obtain ⟨hke, hpw, hsw, hoc, hd1, hd2, hd3, hd4⟩ := w
  have hpl := hpw.1
  have hlp := hpw.2.1
  have hls := hpw.2.2.1
  have hP := hpw.2.2.2.1
  have hS := hpw.2.2.2.2.1
  have hn8 := hpw.2.2.2.2.2.1
  have hn10 := hpw.2.2.2.2.2.2.1
  have hsc := hsw.1
  have hlf := hsw.2.1
  have hF := hsw.2.2.1
  have hn12 := hsw.2.2.2.1
  refine aw_ild1 X dX6_pass_0 rfl ?_
  refine aw_iconst X (1) dX6_pass_1 (by decide) rfl ?_
  refine aw_bipush X (99) dX6_pass_2 (by decide) rfl ?_
  refine aw_callS X dX6_pass_4 rfl (k_X6_outside X.1 _ _ _) cmX6_outside ml_X6_52 rfl rfl (Nat.le_of_ble_eq_true rfl) ⟨Nat.le_of_ble_eq_true rfl, Nat.le_of_ble_eq_true rfl⟩ (aw_rs ?_)
  refine aw_if_eq (n2 := 21) X dX6_pass_7 rfl rfl (fun c7 => ?_) (fun c7 => ?_)
  · refine aw_ald0 X dX6_pass_21 rfl ?_
    refine aw_get X fd_X6_30 dX6_pass_22 rfl hke rfl ?_
    refine aw_ild1 X dX6_pass_25 rfl ?_
    refine aw_iadd X dX6_pass_26 rfl ?_
    refine aw_sipush X (540) dX6_pass_27 (by decide) rfl ?_
    refine aw_icmp_le (n2 := 44) X dX6_pass_30 rfl rfl (fun c30 => ?_) (fun c30 => ?_)
    · obtain ⟨hxk, hxl⟩ := pos_in (a := 1) (n := 99) (bI_n c7) (by decide) (by decide)
      have w1 := w0
      refine aw_ald0 X dX6_pass_44 rfl ?_
      refine aw_get X fd_X6_26 dX6_pass_45 rfl hke rfl ?_
      refine aw_get X fd_X6_287 dX6_pass_48 rfl hoc rfl ?_
      refine aw_ist2 X dX6_pass_51 rfl (by decide) rfl ?_
      refine aw_ald0 X dX6_pass_52 rfl ?_
      refine aw_ild1 X dX6_pass_53 rfl ?_
      refine aw_iconst X (0) dX6_pass_54 (by decide) rfl ?_
      refine aw_callV X dX6_pass_55 rfl (k_X6_goBy X.1 htg w0 hs0 hxk hxl 0) cmX6_goBy ml_X6_277 rfl w1.1 rfl rfl (Nat.le_of_ble_eq_true rfl) ⟨Nat.le_of_ble_eq_true rfl, Nat.le_of_ble_eq_true rfl⟩ (fun r h2 hq hf => ?_)
      obtain ⟨rfl, hw2, hs2⟩ := hq
      refine aw_ald0 X dX6_pass_58 rfl ?_
      refine aw_get X fd_X6_26 dX6_pass_59 rfl hw2.1 rfl ?_
      refine aw_get X fd_X6_287 dX6_pass_62 rfl hw2.2.2.2.1 rfl ?_
      refine aw_ild2 X dX6_pass_65 rfl ?_
      refine aw_isub X dX6_pass_66 rfl ?_
      exact aw_vx (aw_iret X hret rfl dX6_pass_67 (PoN.mk (σ2 := goN 0 (iN x) σ) (by unfold sp_pass; rw [if_neg (bI_n c7), if_neg (fun q => q c30)]) (by exact hw2)))
    · exact aw_throw X th_eS (List.mem_of_getElem? (i := 9) rfl) hE dX6_pass_33 dX6_pass_36 (Or.inr ⟨dX6_pass_37, dX6_pass_40, dX6_pass_43⟩) (by decide) (Nat.le_of_ble_eq_true rfl) (PoX.mk (by unfold sp_pass; rw [if_neg (bI_n c7), if_pos c30]) rfl)
  · exact aw_throw X th_eA (List.mem_of_getElem? (i := 10) rfl) hE dX6_pass_10 dX6_pass_13 (Or.inr ⟨dX6_pass_14, dX6_pass_17, dX6_pass_20⟩) (by decide) (Nat.le_of_ble_eq_true rfl) (PoX.mk (by unfold sp_pass; rw [if_pos (bI_y c7)]) rfl)

set_option maxHeartbeats 4000000 in
set_option maxRecDepth 100000 in
theorem k_X6_speak {l : Launch} {s0 : State} {a0 : Array Value} {G : GG} (X : CX l s0 a0 G) {h : AH} {tg ke : Nat} {A : KA} {σ : NS} (htg : tg ≠ 0) (w : KelW G h tg ke A σ) (hs0 : spd σ.o) (x : Int32) (y : Int32) (z : Int32) (u : Int32)  : ConX l s0 G yX6_speak cX6_speak 7 (some .int) 6 1 6 tg [.ref ke, .int x, .int y, .int z, .int u] h (PoN G tg ke (sp_speak σ x y z u)) (PoX h σ [eI, eA, eS] (sp_speak σ x y z u)) := by
  refine ConX.of X (by decide +kernel) [some (.ref ke), some (.int x), some (.int y), some (.int z), some (.int u), none, none] rfl (Nat.le_of_ble_eq_true rfl) (fun p e s m below meth c X hnm hret hE => ?_)
  have w0 := w
  obtain ⟨hke, hpw, hsw, hoc, hd1, hd2, hd3, hd4⟩ := w
  have hpl := hpw.1
  have hlp := hpw.2.1
  have hls := hpw.2.2.1
  have hP := hpw.2.2.2.1
  have hS := hpw.2.2.2.2.1
  have hn8 := hpw.2.2.2.2.2.1
  have hn10 := hpw.2.2.2.2.2.2.1
  have hsc := hsw.1
  have hlf := hsw.2.1
  have hF := hsw.2.2.1
  have hn12 := hsw.2.2.2.1
  have tail : ∀ (y5 y6 : Option Value) (σ3 : NS) (h3 : AH), KelW G h3 tg ke A σ3 → spd σ3.o → σ3 = spL σ x y z u → z = nI (iN z) → iN z < 1000 → (∀ v9 : Int32, v9 = (goN 1 (iN z) (spL σ x y z u)).ti → sp_speak σ x y z u = (0, v9, goN 1 (iN z) (spL σ x y z u))) → AW p l e (rmv 6 1 6) s m (([.ref ke, .int x, .int y, .int z, .int u] : List Value).toArray) below meth c (vx_MQ below (cQc s0 G tg h (PoN G tg ke (sp_speak σ x y z u))) (xXC s0 G tg h (PoX h σ [eI, eA, eS] (sp_speak σ x y z u))) (([.ref ke, .int x, .int y, .int z, .int u] : List Value).toArray) s 1 6 (fun q => s0.heap.size ≤ q)) s0 G 7 tg h h3 1 6 209 [some (.ref ke), some (.int x), some (.int y), some (.int z), some (.int u), y5, y6] [] := by
    intro y5 y6 σ3 h3 w3 hs3 hl3 hzk hzl hfin
    subst hl3
    refine aw_ald0 X dX6_speak_209 rfl ?_
    refine aw_ild3 X dX6_speak_210 rfl ?_
    refine aw_iconst X (1) dX6_speak_211 (by decide) rfl ?_
    refine aw_callV X dX6_speak_212 rfl (k_X6_goBy X.1 htg w3 hs3 hzk hzl 1) cmX6_goBy ml_X6_277 rfl w3.1 rfl rfl (Nat.le_of_ble_eq_true rfl) ⟨Nat.le_of_ble_eq_true rfl, Nat.le_of_ble_eq_true rfl⟩ (fun r h2 hq hf => ?_)
    obtain ⟨rfl, hw2, hs2⟩ := hq
    refine aw_ald0 X dX6_speak_215 rfl ?_
    refine aw_get X fd_X6_34 dX6_speak_216 rfl hw2.1 rfl ?_
    exact aw_vx (aw_iret X hret rfl dX6_speak_219 (PoN.mk (hfin _ rfl) hw2))
  refine aw_ald0 X dX6_speak_0 rfl ?_
  refine aw_ild1 X dX6_speak_1 rfl ?_
  refine aw_callV X dX6_speak_2 rfl (k_X6_isPerson X.1 w0 _) cmX6_isPerson ml_X6_87 rfl hke rfl rfl (Nat.le_of_ble_eq_true rfl) ⟨Nat.le_of_ble_eq_true rfl, Nat.le_of_ble_eq_true rfl⟩ (aw_rs ?_)
  refine aw_if_eq (n2 := 16) X dX6_speak_5 rfl rfl (fun c5 => ?_) (fun c5 => ?_)
  · exact aw_throw X th_eI (List.mem_of_getElem? (i := 5) rfl) hE dX6_speak_16 dX6_speak_19 (Or.inl ⟨dX6_speak_20, dX6_speak_22, dX6_speak_25⟩) (by decide) (Nat.le_of_ble_eq_true rfl) (PoX.mk (by unfold sp_speak; rw [if_pos (Or.inl (bI_n c5))]) rfl)
  · refine aw_ald0 X dX6_speak_8 rfl ?_
    refine aw_ild2 X dX6_speak_9 rfl ?_
    refine aw_callV X dX6_speak_10 rfl (k_X6_isPerson X.1 w0 _) cmX6_isPerson ml_X6_87 rfl hke rfl rfl (Nat.le_of_ble_eq_true rfl) ⟨Nat.le_of_ble_eq_true rfl, Nat.le_of_ble_eq_true rfl⟩ (aw_rs ?_)
    refine aw_if_ne (n2 := 26) X dX6_speak_13 rfl rfl (fun c13 => ?_) (fun c13 => ?_)
    · refine aw_ild1 X dX6_speak_26 rfl ?_
      refine aw_ild2 X dX6_speak_27 rfl ?_
      refine aw_icmp_eq (n2 := 51) X dX6_speak_28 rfl rfl (fun c28 => ?_) (fun c28 => ?_)
      · exact aw_throw X th_eA (List.mem_of_getElem? (i := 6) rfl) hE dX6_speak_51 dX6_speak_54 (Or.inl ⟨dX6_speak_55, dX6_speak_57, dX6_speak_60⟩) (by decide) (Nat.le_of_ble_eq_true rfl) (PoX.mk (by unfold sp_speak; rw [if_neg (fun q => q.elim (fun z => z (bI_y c5)) (fun z => z (bI_y c13))), if_pos (Or.inl c28)]) rfl)
      · refine aw_ild3 X dX6_speak_31 rfl ?_
        refine aw_iconst X (1) dX6_speak_32 (by decide) rfl ?_
        refine aw_bipush X (9) dX6_speak_33 (by decide) rfl ?_
        refine aw_callS X dX6_speak_35 rfl (k_X6_outside X.1 _ _ _) cmX6_outside ml_X6_52 rfl rfl (Nat.le_of_ble_eq_true rfl) ⟨Nat.le_of_ble_eq_true rfl, Nat.le_of_ble_eq_true rfl⟩ (aw_rs ?_)
        refine aw_if_ne (n2 := 51) X dX6_speak_38 rfl rfl (fun c38 => ?_) (fun c38 => ?_)
        · exact aw_throw X th_eA (List.mem_of_getElem? (i := 6) rfl) hE dX6_speak_51 dX6_speak_54 (Or.inl ⟨dX6_speak_55, dX6_speak_57, dX6_speak_60⟩) (by decide) (Nat.le_of_ble_eq_true rfl) (PoX.mk (by unfold sp_speak; rw [if_neg (fun q => q.elim (fun z => z (bI_y c5)) (fun z => z (bI_y c13))), if_pos (Or.inr (Or.inl (bI_y c38)))]) rfl)
        · refine aw_ild4 X dX6_speak_41 rfl ?_
          refine aw_iconst X (-1) dX6_speak_43 (by decide) rfl ?_
          refine aw_iconst X (1) dX6_speak_44 (by decide) rfl ?_
          refine aw_callS X dX6_speak_45 rfl (k_X6_outside X.1 _ _ _) cmX6_outside ml_X6_52 rfl rfl (Nat.le_of_ble_eq_true rfl) ⟨Nat.le_of_ble_eq_true rfl, Nat.le_of_ble_eq_true rfl⟩ (aw_rs ?_)
          refine aw_if_eq (n2 := 61) X dX6_speak_48 rfl rfl (fun c48 => ?_) (fun c48 => ?_)
          · refine aw_ald0 X dX6_speak_61 rfl ?_
            refine aw_get X fd_X6_19 dX6_speak_62 rfl hke rfl ?_
            refine aw_callV X dX6_speak_65 rfl (k_X5_shownPersons X.1 hsw) cmX5_shownPersons ml_X6_257 rfl hsc rfl rfl (Nat.le_of_ble_eq_true rfl) ⟨Nat.le_of_ble_eq_true rfl, Nat.le_of_ble_eq_true rfl⟩ (aw_rs ?_)
            refine aw_ild1 X dX6_speak_68 rfl ?_
            refine aw_callS X dX6_speak_69 rfl (k_X6_holds X.1 _ _) cmX6_holds ml_X6_260 rfl rfl (Nat.le_of_ble_eq_true rfl) ⟨Nat.le_of_ble_eq_true rfl, Nat.le_of_ble_eq_true rfl⟩ (aw_rs ?_)
            refine aw_if_eq (n2 := 96) X dX6_speak_72 rfl rfl (fun c72 => ?_) (fun c72 => ?_)
            · exact aw_throw X th_eS (List.mem_of_getElem? (i := 7) rfl) hE dX6_speak_96 dX6_speak_99 (Or.inr ⟨dX6_speak_100, dX6_speak_103, dX6_speak_106⟩) (by decide) (Nat.le_of_ble_eq_true rfl) (PoX.mk (by unfold sp_speak; rw [if_neg (fun q => q.elim (fun z => z (bI_y c5)) (fun z => z (bI_y c13))), if_neg (fun q => q.elim c28 (fun q => q.elim (bI_n c38) (bI_n c48))), if_pos (Or.inl (bI_n c72))]) rfl)
            · refine aw_ald0 X dX6_speak_75 rfl ?_
              refine aw_get X fd_X6_34 dX6_speak_76 rfl hke rfl ?_
              refine aw_bipush X (80) dX6_speak_79 (by decide) rfl ?_
              refine aw_icmp_ge (n2 := 96) X dX6_speak_81 rfl rfl (fun c81 => ?_) (fun c81 => ?_)
              · exact aw_throw X th_eS (List.mem_of_getElem? (i := 7) rfl) hE dX6_speak_96 dX6_speak_99 (Or.inr ⟨dX6_speak_100, dX6_speak_103, dX6_speak_106⟩) (by decide) (Nat.le_of_ble_eq_true rfl) (PoX.mk (by unfold sp_speak; rw [if_neg (fun q => q.elim (fun z => z (bI_y c5)) (fun z => z (bI_y c13))), if_neg (fun q => q.elim c28 (fun q => q.elim (bI_n c38) (bI_n c48))), if_pos (Or.inr (Or.inl c81))]) rfl)
              · refine aw_ald0 X dX6_speak_84 rfl ?_
                refine aw_get X fd_X6_30 dX6_speak_85 rfl hke rfl ?_
                refine aw_ild3 X dX6_speak_88 rfl ?_
                refine aw_iadd X dX6_speak_89 rfl ?_
                refine aw_sipush X (540) dX6_speak_90 (by decide) rfl ?_
                refine aw_icmp_le (n2 := 107) X dX6_speak_93 rfl rfl (fun c93 => ?_) (fun c93 => ?_)
                · obtain ⟨hxk, hxl⟩ := cat_in (bI_y c5) (show σ.np < 2 ^ 31 by omega)
                  obtain ⟨hyk, hyl⟩ := cat_in (bI_y c13) (show σ.np < 2 ^ 31 by omega)
                  obtain ⟨hzk, hzl⟩ := pos_in (a := 1) (n := 9) (bI_n c38) (by decide) (by decide)
                  refine aw_ald0 X dX6_speak_107 rfl ?_
                  refine aw_get X fd_X6_10 dX6_speak_108 rfl hke rfl ?_
                  refine aw_get X fd_X6_63 dX6_speak_111 rfl hpl rfl ?_
                  refine aw_ild1 X dX6_speak_114 rfl ?_
                  refine aw_callV X dX6_speak_115 rfl (k_lget X.1 hlp hxk hxl (hP _ hxl).1) cmJx4a65c_get_915e3 ml_X6_105 rfl hlp.1 rfl rfl (Nat.le_of_ble_eq_true rfl) ⟨Nat.le_of_ble_eq_true rfl, Nat.le_of_ble_eq_true rfl⟩ (aw_rs ?_)
                  refine aw_cast X dX6_speak_118 rfl rfl cc_X6_78 (hP _ hxl).2 ?_
                  refine aw_ast5 X dX6_speak_121 rfl (by decide) rfl ?_
                  refine aw_iconst X (1) dX6_speak_123 (by decide) rfl ?_
                  refine aw_ild3 X dX6_speak_124 rfl ?_
                  refine aw_ald5 X dX6_speak_125 rfl ?_
                  refine aw_get X fd_X6_265 dX6_speak_127 rfl (hP _ hxl).2 rfl ?_
                  refine aw_ald0 X dX6_speak_130 rfl ?_
                  refine aw_get X fd_X6_37 dX6_speak_131 rfl hke rfl ?_
                  refine aw_isub X dX6_speak_134 rfl ?_
                  refine aw_mabs X dX6_speak_135 rfl ⟨ml_X6_214, mm_abs⟩ (Nat.le_of_ble_eq_true rfl) (Nat.le_of_ble_eq_true rfl) ?_
                  refine aw_imul X dX6_speak_138 rfl ?_
                  refine aw_iconst X (3) dX6_speak_139 (by decide) rfl ?_
                  refine aw_idiv X dX6_speak_140 (by decide) rfl ?_
                  refine aw_iadd X dX6_speak_141 rfl ?_
                  rw [show (1 + (z * if 0 ≤ σ.P (iN x) 2 - σ.lp then σ.P (iN x) 2 - σ.lp else 0 - (σ.P (iN x) 2 - σ.lp)) / 3) = spE σ x z from rfl]
                  generalize hef : spE σ x z = ef
                  refine aw_ist6 X dX6_speak_142 rfl (by decide) rfl ?_
                  refine aw_ald0 X dX6_speak_144 rfl ?_
                  refine aw_bipush X (100) dX6_speak_145 (by decide) rfl ?_
                  refine aw_ald0 X dX6_speak_147 rfl ?_
                  refine aw_get X fd_X6_34 dX6_speak_148 rfl hke rfl ?_
                  refine aw_ild6 X dX6_speak_151 rfl ?_
                  refine aw_iadd X dX6_speak_153 rfl ?_
                  refine aw_mmin X dX6_speak_154 rfl ⟨ml_X6_268, mm_min⟩ (Nat.le_of_ble_eq_true rfl) (Nat.le_of_ble_eq_true rfl) ?_
                  generalize hqt : (if σ.ti + ef < 100 then σ.ti + ef else 100) = t9
                  refine aw_put X fd_X6_34 fw_X6_4 dX6_speak_157 rfl htg hke rfl rfl (Nat.le_of_ble_eq_true rfl) ?_
                  refine aw_gen (w0.own (upd σ.v 1 t9)) (fun h1 σ1 e1 w1 => ?_)
                  have eN1 : σ1.np = σ.np := by rw [e1]; rfl
                  have eP1 : σ1.P = σ.P := by rw [e1]; rfl
                  refine aw_ald0 X dX6_speak_160 rfl ?_
                  refine aw_ald5 X dX6_speak_161 rfl ?_
                  refine aw_get X fd_X6_265 dX6_speak_163 rfl (w1.2.1.2.2.2.1 _ (by rw [eN1]; exact hxl)).2 rfl ?_
                  refine aw_put X fd_X6_37 fw_X6_5 dX6_speak_166 rfl htg w1.1 rfl rfl (Nat.le_of_ble_eq_true rfl) ?_
                  refine aw_gen (w1.own (upd σ1.v 2 (σ1.P (iN x) 2))) (fun h2 σ2 e2 w2 => ?_)
                  have eN2 : σ2.np = σ.np := by rw [e2]; exact eN1
                  have eP2 : σ2.P = σ.P := by rw [e2]; exact eP1
                  have eo2 : spd σ2.o := by rw [e2]; show spd σ1.o; rw [e1]; exact hs0
                  have es2 : σ2.sl = σ.sl := by rw [e2]; show σ1.sl = _; rw [e1]; rfl
                  have hM : σ2 = spM σ x z := by rw [e2, eP1, e1]; unfold spM; rw [hef, hqt]
                  have hx2 : iN x < σ2.np := by rw [eN2]; exact hxl
                  have hy2 : iN y < σ2.np := by rw [eN2]; exact hyl
                  refine aw_ild4 X dX6_speak_169 rfl ?_
                  refine aw_ald5 X dX6_speak_171 rfl ?_
                  refine aw_get X fd_X6_271 dX6_speak_173 rfl (w2.2.1.2.2.2.1 _ hx2).2 rfl ?_
                  refine aw_ald0 X dX6_speak_176 rfl ?_
                  refine aw_get X fd_X6_10 dX6_speak_177 rfl w2.1 rfl ?_
                  refine aw_get X fd_X6_63 dX6_speak_180 rfl w2.2.1.1 rfl ?_
                  refine aw_ild2 X dX6_speak_183 rfl ?_
                  refine aw_callV X dX6_speak_184 rfl (k_lget X.1 w2.2.1.2.1 hyk hy2 (w2.2.1.2.2.2.1 _ hy2).1) cmJx4a65c_get_915e3 ml_X6_105 rfl w2.2.1.2.1.1 rfl rfl (Nat.le_of_ble_eq_true rfl) ⟨Nat.le_of_ble_eq_true rfl, Nat.le_of_ble_eq_true rfl⟩ (aw_rs ?_)
                  refine aw_cast X dX6_speak_187 rfl rfl cc_X6_78 (w2.2.1.2.2.2.1 _ hy2).2 ?_
                  refine aw_get X fd_X6_271 dX6_speak_190 rfl (w2.2.1.2.2.2.1 _ hy2).2 rfl ?_
                  refine aw_callS X dX6_speak_193 rfl (k_X6_rightLevel X.1 _ _) cmX6_rightLevel ml_X6_274 rfl rfl (Nat.le_of_ble_eq_true rfl) ⟨Nat.le_of_ble_eq_true rfl, Nat.le_of_ble_eq_true rfl⟩ (aw_rs ?_)
                  refine aw_icmp_eq (n2 := 209) X dX6_speak_196 rfl rfl (fun c196 => ?_) (fun c196 => ?_)
                  · rw [eP2] at c196
                    exact tail _ _ _ _ w2 eo2 (hM.trans (show spL σ x y z u = spM σ x z from if_pos c196).symm) hzk hzl (fun v9 e9 => by rw [e9]; unfold sp_speak; rw [if_neg (fun q => q.elim (fun z => z (bI_y c5)) (fun z => z (bI_y c13))), if_neg (fun q => q.elim c28 (fun q => q.elim (bI_n c38) (bI_n c48))), if_neg (fun q => q.elim (fun z => z (bI_y c72)) (fun q => q.elim c81 (fun z => z c93)))])
                  · refine aw_ald0 X dX6_speak_199 rfl ?_
                    refine aw_dup X dX6_speak_200 rfl rfl ?_
                    refine aw_get X fd_X6_46 dX6_speak_201 rfl w2.1 rfl ?_
                    refine aw_iconst X (1) dX6_speak_204 (by decide) rfl ?_
                    refine aw_iadd X dX6_speak_205 rfl ?_
                    refine aw_put X fd_X6_46 fw_X6_8 dX6_speak_206 rfl htg w2.1 rfl rfl (Nat.le_of_ble_eq_true rfl) ?_
                    rw [eP2] at c196
                    exact tail _ _ _ _ (w2.own (upd σ2.v 5 (σ2.sl + 1))) eo2 (by rw [show spL σ x y z u = (spM σ x z).up 5 (σ.sl + 1) from if_neg c196, ← hM, ← es2]) hzk hzl (fun v9 e9 => by rw [e9]; unfold sp_speak; rw [if_neg (fun q => q.elim (fun z => z (bI_y c5)) (fun z => z (bI_y c13))), if_neg (fun q => q.elim c28 (fun q => q.elim (bI_n c38) (bI_n c48))), if_neg (fun q => q.elim (fun z => z (bI_y c72)) (fun q => q.elim c81 (fun z => z c93)))])
                · exact aw_throw X th_eS (List.mem_of_getElem? (i := 7) rfl) hE dX6_speak_96 dX6_speak_99 (Or.inr ⟨dX6_speak_100, dX6_speak_103, dX6_speak_106⟩) (by decide) (Nat.le_of_ble_eq_true rfl) (PoX.mk (by unfold sp_speak; rw [if_neg (fun q => q.elim (fun z => z (bI_y c5)) (fun z => z (bI_y c13))), if_neg (fun q => q.elim c28 (fun q => q.elim (bI_n c38) (bI_n c48))), if_pos (Or.inr (Or.inr c93))]) rfl)
          · exact aw_throw X th_eA (List.mem_of_getElem? (i := 6) rfl) hE dX6_speak_51 dX6_speak_54 (Or.inl ⟨dX6_speak_55, dX6_speak_57, dX6_speak_60⟩) (by decide) (Nat.le_of_ble_eq_true rfl) (PoX.mk (by unfold sp_speak; rw [if_neg (fun q => q.elim (fun z => z (bI_y c5)) (fun z => z (bI_y c13))), if_pos (Or.inr (Or.inr (bI_y c48)))]) rfl)
    · exact aw_throw X th_eI (List.mem_of_getElem? (i := 5) rfl) hE dX6_speak_16 dX6_speak_19 (Or.inl ⟨dX6_speak_20, dX6_speak_22, dX6_speak_25⟩) (by decide) (Nat.le_of_ble_eq_true rfl) (PoX.mk (by unfold sp_speak; rw [if_pos (Or.inr (bI_n c13))]) rfl)
