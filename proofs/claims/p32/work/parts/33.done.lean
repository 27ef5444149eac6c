/-! THE LAW'S CATCHING METHODS -/
/-- the answer, or -1 where it is refused; the night behind it -/
def PoD (G : GG) (tg ke : Nat) (R : Rs) : Option Value → AH → Prop := fun r h2 => some (.int (if R.1 = 0 then R.2.1 else -1)) = r ∧ ∃ A2, KelW G h2 tg ke A2 R.2.2
theorem PoD.yes {G : GG} {tg ke : Nat} {R : Rs} {r : Option Value} {h2 : AH} (q : PoN G tg ke R r h2) : PoD G tg ke R r h2 := ⟨by rw [if_pos q.1]; exact q.2.1, q.2.2⟩
theorem PoD.no {G : GG} {h : AH} {tg ke : Nat} {A : KA} {σ : NS} {R : Rs} (e1 : R.2.2 = σ) (e2 : R.1 ≠ 0) (w : KelW G h tg ke A σ) : PoD G tg ke R (some (.int (-1))) h := ⟨by rw [if_neg e2], A, by rw [e1]; exact w⟩

theorem cmhL_done : CMH yL_done cL_done 4 (some .int) [(0, 43, 44, 118)] 3 := ⟨⟨List.mem_of_getElem? (i := 820) (by decide +kernel), by decide +kernel⟩, ⟨List.mem_of_getElem? (i := 22) (by decide +kernel), by decide +kernel⟩, ⟨by decide, by decide⟩, by decide +kernel, ⟨List.mem_of_getElem? (i := 819) (by decide +kernel), by decide +kernel⟩⟩

theorem cmhL_move : CMH yL_move cL_move 4 (some .int) [(0, 6, 7, 118)] 3 := ⟨⟨List.mem_of_getElem? (i := 846) (by decide +kernel), by decide +kernel⟩, ⟨List.mem_of_getElem? (i := 22) (by decide +kernel), by decide +kernel⟩, ⟨by decide, by decide⟩, by decide +kernel, ⟨List.mem_of_getElem? (i := 845) (by decide +kernel), by decide +kernel⟩⟩

set_option maxHeartbeats 4000000 in
set_option maxRecDepth 100000 in
theorem k_done_grip {l : Launch} {s0 : State} {a0 : Array Value} {G : GG} (X : CX l s0 a0 G) {h : AH} {tg ke : Nat} {A : KA} {σ : NS} (htg : tg ≠ 0) (w : KelW G h tg ke A σ) (x : Int32) (hR : (sp_grip σ x).1 = 0 ∨ (sp_grip σ x).1 = 2) : ConH l s0 G yL_done cL_done 4 (some .int) [(0, 43, 44, 118)] 10 1 6 tg [.ref ke, .int 0, .int x] h (PoD G tg ke (sp_grip σ x)) := by
  refine ConH.of X (by decide +kernel) [some (.ref ke), some (.int 0), some (.int x), none] rfl (Nat.le_of_ble_eq_true rfl) (fun p e s m below meth c X hnm hret hE => ?_)
  refine aw_ild1 X dL_done_0 rfl ?_
  refine aw_if_ne (n2 := 12) X dL_done_1 rfl rfl (fun c9 => absurd rfl c9) (fun _ => ?_)
  refine aw_ald0 X dL_done_4 rfl ?_
  refine aw_ild2 X dL_done_5 rfl ?_
  refine aw_callVX X dL_done_6 rfl (k_X6_grip X.1 htg w x) cmX6_grip ml_L_106 rfl w.1 rfl rfl (Nat.le_of_ble_eq_true rfl) ⟨Nat.le_of_ble_eq_true rfl, Nat.le_of_ble_eq_true rfl⟩ (fun r h2 hq hf => ?_) (fun E h2 hq hf => ?_)
  · obtain ⟨e1, rfl, hw2⟩ := hq
    refine aw_goto (n := 43) X dL_done_9 rfl ?_
    exact aw_iret X hret rfl dL_done_43 (PoD.yes ⟨e1, rfl, hw2⟩)
  · obtain ⟨e1, e2, e3, rfl⟩ := hq
    have e4 := hR.resolve_left e2
    rw [e4] at e3
    obtain rfl : eS = E := Option.some.inj e3
    refine aw_catch X [] ⟨0, 43, 44, 118⟩ [] (hE.trans rfl) (fun z hz => absurd hz List.not_mem_nil) (by decide) (by decide) cc_L_118 (List.mem_of_getElem? (i := 175) (by decide +kernel)) rfl (fun q9 => ?_)
    refine aw_ast3 X dL_done_44 rfl (by decide) rfl ?_
    refine aw_iconst X (-1) dL_done_45 (by decide) rfl ?_
    exact aw_iret X hret rfl dL_done_46 (PoD.no e1 e2 w)

set_option maxHeartbeats 4000000 in
set_option maxRecDepth 100000 in
theorem k_done_plant {l : Launch} {s0 : State} {a0 : Array Value} {G : GG} (X : CX l s0 a0 G) {h : AH} {tg ke : Nat} {A : KA} {σ : NS} (htg : tg ≠ 0) (w : KelW G h tg ke A σ) (x : Int32) (hR : (sp_plant σ x).1 = 0 ∨ (sp_plant σ x).1 = 2) : ConH l s0 G yL_done cL_done 4 (some .int) [(0, 43, 44, 118)] 10 1 6 tg [.ref ke, .int 1, .int x] h (PoD G tg ke (sp_plant σ x)) := by
  refine ConH.of X (by decide +kernel) [some (.ref ke), some (.int 1), some (.int x), none] rfl (Nat.le_of_ble_eq_true rfl) (fun p e s m below meth c X hnm hret hE => ?_)
  refine aw_ild1 X dL_done_0 rfl ?_
  refine aw_if_ne (n2 := 12) X dL_done_1 rfl rfl (fun _ => ?_) (fun c9 => absurd c9 (by decide))
  refine aw_ild1 X dL_done_12 rfl ?_
  refine aw_iconst X (1) dL_done_13 (by decide) rfl ?_
  refine aw_icmp_ne (n2 := 25) X dL_done_14 rfl rfl (fun c9 => absurd rfl c9) (fun _ => ?_)
  refine aw_ald0 X dL_done_17 rfl ?_
  refine aw_ild2 X dL_done_18 rfl ?_
  refine aw_callVX X dL_done_19 rfl (k_X6_plant X.1 htg w x) cmX6_plant ml_L_109 rfl w.1 rfl rfl (Nat.le_of_ble_eq_true rfl) ⟨Nat.le_of_ble_eq_true rfl, Nat.le_of_ble_eq_true rfl⟩ (fun r h2 hq hf => ?_) (fun E h2 hq hf => ?_)
  · obtain ⟨e1, rfl, hw2⟩ := hq
    refine aw_goto (n := 43) X dL_done_22 rfl ?_
    exact aw_iret X hret rfl dL_done_43 (PoD.yes ⟨e1, rfl, hw2⟩)
  · obtain ⟨e1, e2, e3, rfl⟩ := hq
    have e4 := hR.resolve_left e2
    rw [e4] at e3
    obtain rfl : eS = E := Option.some.inj e3
    refine aw_catch X [] ⟨0, 43, 44, 118⟩ [] (hE.trans rfl) (fun z hz => absurd hz List.not_mem_nil) (by decide) (by decide) cc_L_118 (List.mem_of_getElem? (i := 175) (by decide +kernel)) rfl (fun q9 => ?_)
    refine aw_ast3 X dL_done_44 rfl (by decide) rfl ?_
    refine aw_iconst X (-1) dL_done_45 (by decide) rfl ?_
    exact aw_iret X hret rfl dL_done_46 (PoD.no e1 e2 w)

set_option maxHeartbeats 4000000 in
set_option maxRecDepth 100000 in
theorem k_done_hand {l : Launch} {s0 : State} {a0 : Array Value} {G : GG} (X : CX l s0 a0 G) {h : AH} {tg ke : Nat} {A : KA} {σ : NS} (htg : tg ≠ 0) (w : KelW G h tg ke A σ) (x : Int32) (hR : (sp_hand σ x).1 = 0 ∨ (sp_hand σ x).1 = 2) : ConH l s0 G yL_done cL_done 4 (some .int) [(0, 43, 44, 118)] 10 1 6 tg [.ref ke, .int 2, .int x] h (PoD G tg ke (sp_hand σ x)) := by
  refine ConH.of X (by decide +kernel) [some (.ref ke), some (.int 2), some (.int x), none] rfl (Nat.le_of_ble_eq_true rfl) (fun p e s m below meth c X hnm hret hE => ?_)
  refine aw_ild1 X dL_done_0 rfl ?_
  refine aw_if_ne (n2 := 12) X dL_done_1 rfl rfl (fun _ => ?_) (fun c9 => absurd c9 (by decide))
  refine aw_ild1 X dL_done_12 rfl ?_
  refine aw_iconst X (1) dL_done_13 (by decide) rfl ?_
  refine aw_icmp_ne (n2 := 25) X dL_done_14 rfl rfl (fun _ => ?_) (fun c9 => absurd c9 (by decide))
  refine aw_ild1 X dL_done_25 rfl ?_
  refine aw_iconst X (2) dL_done_26 (by decide) rfl ?_
  refine aw_icmp_ne (n2 := 38) X dL_done_27 rfl rfl (fun c9 => absurd rfl c9) (fun _ => ?_)
  refine aw_ald0 X dL_done_30 rfl ?_
  refine aw_ild2 X dL_done_31 rfl ?_
  refine aw_callVX X dL_done_32 rfl (k_X6_hand X.1 htg w x) cmX6_hand ml_L_112 rfl w.1 rfl rfl (Nat.le_of_ble_eq_true rfl) ⟨Nat.le_of_ble_eq_true rfl, Nat.le_of_ble_eq_true rfl⟩ (fun r h2 hq hf => ?_) (fun E h2 hq hf => ?_)
  · obtain ⟨e1, rfl, hw2⟩ := hq
    refine aw_goto (n := 43) X dL_done_35 rfl ?_
    exact aw_iret X hret rfl dL_done_43 (PoD.yes ⟨e1, rfl, hw2⟩)
  · obtain ⟨e1, e2, e3, rfl⟩ := hq
    have e4 := hR.resolve_left e2
    rw [e4] at e3
    obtain rfl : eS = E := Option.some.inj e3
    refine aw_catch X [] ⟨0, 43, 44, 118⟩ [] (hE.trans rfl) (fun z hz => absurd hz List.not_mem_nil) (by decide) (by decide) cc_L_118 (List.mem_of_getElem? (i := 175) (by decide +kernel)) rfl (fun q9 => ?_)
    refine aw_ast3 X dL_done_44 rfl (by decide) rfl ?_
    refine aw_iconst X (-1) dL_done_45 (by decide) rfl ?_
    exact aw_iret X hret rfl dL_done_46 (PoD.no e1 e2 w)

set_option maxHeartbeats 4000000 in
set_option maxRecDepth 100000 in
theorem k_done_away {l : Launch} {s0 : State} {a0 : Array Value} {G : GG} (X : CX l s0 a0 G) {h : AH} {tg ke : Nat} {A : KA} {σ : NS} (htg : tg ≠ 0) (w : KelW G h tg ke A σ) (x : Int32) (hR : (sp_away σ x).1 = 0 ∨ (sp_away σ x).1 = 2) : ConH l s0 G yL_done cL_done 4 (some .int) [(0, 43, 44, 118)] 10 1 6 tg [.ref ke, .int 3, .int x] h (PoD G tg ke (sp_away σ x)) := by
  refine ConH.of X (by decide +kernel) [some (.ref ke), some (.int 3), some (.int x), none] rfl (Nat.le_of_ble_eq_true rfl) (fun p e s m below meth c X hnm hret hE => ?_)
  refine aw_ild1 X dL_done_0 rfl ?_
  refine aw_if_ne (n2 := 12) X dL_done_1 rfl rfl (fun _ => ?_) (fun c9 => absurd c9 (by decide))
  refine aw_ild1 X dL_done_12 rfl ?_
  refine aw_iconst X (1) dL_done_13 (by decide) rfl ?_
  refine aw_icmp_ne (n2 := 25) X dL_done_14 rfl rfl (fun _ => ?_) (fun c9 => absurd c9 (by decide))
  refine aw_ild1 X dL_done_25 rfl ?_
  refine aw_iconst X (2) dL_done_26 (by decide) rfl ?_
  refine aw_icmp_ne (n2 := 38) X dL_done_27 rfl rfl (fun _ => ?_) (fun c9 => absurd c9 (by decide))
  refine aw_ald0 X dL_done_38 rfl ?_
  refine aw_ild2 X dL_done_39 rfl ?_
  refine aw_callVX X dL_done_40 rfl (k_X6_away X.1 htg w x) cmX6_away ml_L_115 rfl w.1 rfl rfl (Nat.le_of_ble_eq_true rfl) ⟨Nat.le_of_ble_eq_true rfl, Nat.le_of_ble_eq_true rfl⟩ (fun r h2 hq hf => ?_) (fun E h2 hq hf => ?_)
  · obtain ⟨e1, rfl, hw2⟩ := hq
    exact aw_iret X hret rfl dL_done_43 (PoD.yes ⟨e1, rfl, hw2⟩)
  · obtain ⟨e1, e2, e3, rfl⟩ := hq
    have e4 := hR.resolve_left e2
    rw [e4] at e3
    obtain rfl : eS = E := Option.some.inj e3
    refine aw_catch X [] ⟨0, 43, 44, 118⟩ [] (hE.trans rfl) (fun z hz => absurd hz List.not_mem_nil) (by decide) (by decide) cc_L_118 (List.mem_of_getElem? (i := 175) (by decide +kernel)) rfl (fun q9 => ?_)
    refine aw_ast3 X dL_done_44 rfl (by decide) rfl ?_
    refine aw_iconst X (-1) dL_done_45 (by decide) rfl ?_
    exact aw_iret X hret rfl dL_done_46 (PoD.no e1 e2 w)

set_option maxHeartbeats 4000000 in
set_option maxRecDepth 100000 in
theorem k_mv {l : Launch} {s0 : State} {a0 : Array Value} {G : GG} (X : CX l s0 a0 G) {h : AH} {tg ke : Nat} {A : KA} {σ : NS} (htg : tg ≠ 0) (w : KelW G h tg ke A σ) (x y : Int32) (hR : (sp_move σ x y).1 = 0 ∨ (sp_move σ x y).1 = 3) : ConH l s0 G yL_move cL_move 4 (some .int) [(0, 6, 7, 118)] 10 1 6 tg [.ref ke, .int x, .int y] h (PoD G tg ke (sp_move σ x y)) := by
  refine ConH.of X (by decide +kernel) [some (.ref ke), some (.int x), some (.int y), none] rfl (Nat.le_of_ble_eq_true rfl) (fun p e s m below meth c X hnm hret hE => ?_)
  refine aw_ald0 X dL_move_0 rfl ?_
  refine aw_ild1 X dL_move_1 rfl ?_
  refine aw_ild2 X dL_move_2 rfl ?_
  refine aw_callVX X dL_move_3 rfl (k_X6_move X.1 htg w x y) cmX6_move ml_L_120 rfl w.1 rfl rfl (Nat.le_of_ble_eq_true rfl) ⟨Nat.le_of_ble_eq_true rfl, Nat.le_of_ble_eq_true rfl⟩ (fun r h2 hq hf => ?_) (fun E h2 hq hf => ?_)
  · obtain ⟨e1, rfl, hw2⟩ := hq
    exact aw_iret X hret rfl dL_move_6 (PoD.yes ⟨e1, rfl, hw2⟩)
  · obtain ⟨e1, e2, e3, rfl⟩ := hq
    have e4 := hR.resolve_left e2
    rw [e4] at e3
    obtain rfl : eS = E := Option.some.inj e3
    refine aw_catch X [] ⟨0, 6, 7, 118⟩ [] (hE.trans rfl) (fun z hz => absurd hz List.not_mem_nil) (by decide) (by decide) cc_L_118 (List.mem_of_getElem? (i := 175) (by decide +kernel)) rfl (fun q9 => ?_)
    refine aw_ast3 X dL_move_7 rfl (by decide) rfl ?_
    refine aw_iconst X (-1) dL_move_8 (by decide) rfl ?_
    exact aw_iret X hret rfl dL_move_9 (PoD.no e1 e2 w)
