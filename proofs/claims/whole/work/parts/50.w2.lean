/-! THE LAW'S CATCHING METHODS -/

theorem cmhL_person : CMH yL_person cL_person 9 (some .int) [(0, 18, 21, 13), (0, 18, 25, 15)] 8 := ⟨⟨List.mem_of_getElem? (i := 418) (by decide +kernel), by decide +kernel⟩, ⟨List.mem_of_getElem? (i := 53) (by decide +kernel), by decide +kernel⟩, ⟨by decide, by decide⟩, by decide +kernel, ⟨List.mem_of_getElem? (i := 417) (by decide +kernel), by decide +kernel⟩⟩
set_option maxHeartbeats 4000000 in
set_option maxRecDepth 100000 in
theorem k_L_person {l : Launch} {s0 : State} {a0 : Array Value} {G : GG} (X : CX l s0 a0 G) (hN : NX s0) {h : AH} {ke out : Nat} {A : KA} {σ : NS} {g : Nat → Int64} (w : KelW G h 1 ke A σ) (ez : EZ G h) (hout : h out = some (3, oOut g)) (hv : IV σ) (x : Int32) (y : Int32) (z : Int32) (u : Int32) (v9 : Int32) (w9 : Int32) (h6 : narrow .boolean (.int w9) = .int w9) : ConO l s0 G yL_person cL_person 9 (some .int) [(0, 18, 21, 13), (0, 18, 25, 15)] 10 2 21 1 [.ref ke, .int x, .int y, .int z, .int u, .int v9, .int w9, .ref out] h (hide out h) (PoW G ke out (sp_person σ x y z u v9 w9) (sp_person σ x y z u v9 w9).2.1.toInt64) := by
  refine ConO.of X (by decide +kernel) [some (.ref ke), some (.int x), some (.int y), some (.int z), some (.int u), some (.int v9), some (.int w9), some (.ref out), none] rfl (Nat.le_of_ble_eq_true rfl) FrT_hide (fun p e s m below meth c X hnm hret hE => ?_)
  refine aw_ald7 X dL_person_0 rfl ?_
  refine aw_iconst X (0) dL_person_2 (by decide) rfl ?_
  refine aw_ald0 X dL_person_3 rfl ?_
  refine aw_ild1 X dL_person_4 rfl ?_
  refine aw_ild2 X dL_person_5 rfl ?_
  refine aw_ild3 X dL_person_6 rfl ?_
  refine aw_ild4 X dL_person_7 rfl ?_
  refine aw_ild5 X dL_person_9 rfl ?_
  refine aw_ild6 X dL_person_11 rfl ?_
  refine aw_callVX X dL_person_13 rfl (k_X6_person X.1 (by decide) w hv x y z u v9 w9 h6) cmX6_person ml_L_7 rfl w.1 rfl rfl (Nat.le_of_ble_eq_true rfl) ⟨Nat.le_of_ble_eq_true rfl, Nat.le_of_ble_eq_true rfl⟩ (fun r h2 hq hf => ?_) (fun E h2 hq hf => ?_)
  · obtain ⟨e1, rfl, A2, w2⟩ := hq
    have ho2 : h2 out = some (3, oOut g) := hf.1 _ _ _ hout (by decide)
    have ez2 := ez.fr hf (by decide)
    refine aw_i2l X dL_person_16 rfl ?_
    refine aw_lastO X 0 dL_person_17 rfl (by decide) hide_o ho2 rfl (by decide) (by decide) ?_
    refine aw_goto (n := 29) X dL_person_18 rfl ?_
    refine aw_iconst X (0) dL_person_29 (by decide) rfl ?_
    exact aw_iret X hret rfl dL_person_30 (PoW.yes e1 rfl w2 ez2 ho2)
  · obtain ⟨e1, e2, e3, rfl⟩ := hq
    have hlt : (sp_person σ x y z u v9 w9).1 - 1 < 2 := (List.getElem?_eq_some_iff.mp e3).1
    have hcs : (sp_person σ x y z u v9 w9).1 = 1 ∨ (sp_person σ x y z u v9 w9).1 = 2 := by omega
    rcases hcs with q | q
    · rw [q] at e3
      obtain rfl : eA = E := Option.some.inj e3
      refine aw_catch X [] ⟨0, 18, 21, 13⟩ [⟨0, 18, 25, 15⟩] (hE.trans rfl) (fun z hz => absurd hz List.not_mem_nil) (by decide) (by decide) cc_L_13 (List.mem_of_getElem? (i := 430) (by decide +kernel)) rfl (fun q9 => ?_)
      refine aw_ast8 X dL_person_21 rfl (by decide) rfl ?_
      refine aw_iconst X (1) dL_person_23 (by decide) rfl ?_
      exact aw_iret X hret rfl dL_person_24 (PoW.no q (by decide) e1 e2 w hout)
    · rw [q] at e3
      obtain rfl : eS = E := Option.some.inj e3
      refine aw_catch X [⟨0, 18, 21, 13⟩] ⟨0, 18, 25, 15⟩ [] (hE.trans rfl) (fun z hz => by
            rw [List.mem_singleton.mp hz]; exact ⟨by decide, eA, cc_L_13, hN.1⟩) (by decide) (by decide) cc_L_15 (List.mem_of_getElem? (i := 498) (by decide +kernel)) rfl (fun q9 => ?_)
      refine aw_ast8 X dL_person_25 rfl (by decide) rfl ?_
      refine aw_iconst X (2) dL_person_27 (by decide) rfl ?_
      exact aw_iret X hret rfl dL_person_28 (PoW.no q (by decide) e1 e2 w hout)

theorem cmhL_figure : CMH yL_figure cL_figure 5 (some .int) [(0, 10, 13, 21), (0, 10, 17, 13), (0, 10, 21, 15)] 4 := ⟨⟨List.mem_of_getElem? (i := 606) (by decide +kernel), by decide +kernel⟩, ⟨List.mem_of_getElem? (i := 53) (by decide +kernel), by decide +kernel⟩, ⟨by decide, by decide⟩, by decide +kernel, ⟨List.mem_of_getElem? (i := 605) (by decide +kernel), by decide +kernel⟩⟩
set_option maxHeartbeats 4000000 in
set_option maxRecDepth 100000 in
theorem k_L_figure {l : Launch} {s0 : State} {a0 : Array Value} {G : GG} (X : CX l s0 a0 G) (hN : NX s0) {h : AH} {ke out : Nat} {A : KA} {σ : NS} {g : Nat → Int64} (w : KelW G h 1 ke A σ) (ez : EZ G h) (hout : h out = some (3, oOut g)) (x : Int32) (y : Int32) : ConO l s0 G yL_figure cL_figure 5 (some .int) [(0, 10, 13, 21), (0, 10, 17, 13), (0, 10, 21, 15)] 10 2 22 1 [.ref ke, .int x, .int y, .ref out] h (hide out h) (PoW G ke out (sp_figure σ x y) (sp_figure σ x y).2.1.toInt64) := by
  refine ConO.of X (by decide +kernel) [some (.ref ke), some (.int x), some (.int y), some (.ref out), none] rfl (Nat.le_of_ble_eq_true rfl) FrT_hide (fun p e s m below meth c X hnm hret hE => ?_)
  refine aw_ald3 X dL_figure_0 rfl ?_
  refine aw_iconst X (0) dL_figure_1 (by decide) rfl ?_
  refine aw_ald0 X dL_figure_2 rfl ?_
  refine aw_ild1 X dL_figure_3 rfl ?_
  refine aw_ild2 X dL_figure_4 rfl ?_
  refine aw_callVX X dL_figure_5 rfl (k_X6_figure X.1 (by decide) w x y) cmX6_figure ml_L_17 rfl w.1 rfl rfl (Nat.le_of_ble_eq_true rfl) ⟨Nat.le_of_ble_eq_true rfl, Nat.le_of_ble_eq_true rfl⟩ (fun r h2 hq hf => ?_) (fun E h2 hq hf => ?_)
  · obtain ⟨e1, rfl, A2, w2⟩ := hq
    have ho2 : h2 out = some (3, oOut g) := hf.1 _ _ _ hout (by decide)
    have ez2 := ez.fr hf (by decide)
    refine aw_i2l X dL_figure_8 rfl ?_
    refine aw_lastO X 0 dL_figure_9 rfl (by decide) hide_o ho2 rfl (by decide) (by decide) ?_
    refine aw_goto (n := 25) X dL_figure_10 rfl ?_
    refine aw_iconst X (0) dL_figure_25 (by decide) rfl ?_
    exact aw_iret X hret rfl dL_figure_26 (PoW.yes e1 rfl w2 ez2 ho2)
  · obtain ⟨e1, e2, e3, rfl⟩ := hq
    have hlt : (sp_figure σ x y).1 - 1 < 3 := (List.getElem?_eq_some_iff.mp e3).1
    have hcs : (sp_figure σ x y).1 = 1 ∨ (sp_figure σ x y).1 = 2 ∨ (sp_figure σ x y).1 = 3 := by omega
    rcases hcs with q | q | q
    · rw [q] at e3
      obtain rfl : eI = E := Option.some.inj e3
      refine aw_catch X [] ⟨0, 10, 13, 21⟩ [⟨0, 10, 17, 13⟩, ⟨0, 10, 21, 15⟩] (hE.trans rfl) (fun z hz => absurd hz List.not_mem_nil) (by decide) (by decide) cc_L_21 (List.mem_of_getElem? (i := 618) (by decide +kernel)) rfl (fun q9 => ?_)
      refine aw_ast4 X dL_figure_13 rfl (by decide) rfl ?_
      refine aw_iconst X (1) dL_figure_15 (by decide) rfl ?_
      exact aw_iret X hret rfl dL_figure_16 (PoW.no q (by decide) e1 e2 w hout)
    · rw [q] at e3
      obtain rfl : eA = E := Option.some.inj e3
      refine aw_catch X [⟨0, 10, 13, 21⟩] ⟨0, 10, 17, 13⟩ [⟨0, 10, 21, 15⟩] (hE.trans rfl) (fun z hz => by
            rw [List.mem_singleton.mp hz]; exact ⟨by decide, eI, cc_L_21, hN.2.2.2.2.1⟩) (by decide) (by decide) cc_L_13 (List.mem_of_getElem? (i := 430) (by decide +kernel)) rfl (fun q9 => ?_)
      refine aw_ast4 X dL_figure_17 rfl (by decide) rfl ?_
      refine aw_iconst X (2) dL_figure_19 (by decide) rfl ?_
      exact aw_iret X hret rfl dL_figure_20 (PoW.no q (by decide) e1 e2 w hout)
    · rw [q] at e3
      obtain rfl : eS = E := Option.some.inj e3
      refine aw_catch X [⟨0, 10, 13, 21⟩, ⟨0, 10, 17, 13⟩] ⟨0, 10, 21, 15⟩ [] (hE.trans rfl) (fun z hz => by
            rcases List.mem_cons.mp hz with hz | hz
            · rw [hz]; exact ⟨by decide, eI, cc_L_21, hN.2.2.2.2.2⟩
            · rw [List.mem_singleton.mp hz]; exact ⟨by decide, eA, cc_L_13, hN.1⟩) (by decide) (by decide) cc_L_15 (List.mem_of_getElem? (i := 498) (by decide +kernel)) rfl (fun q9 => ?_)
      refine aw_ast4 X dL_figure_21 rfl (by decide) rfl ?_
      refine aw_iconst X (3) dL_figure_23 (by decide) rfl ?_
      exact aw_iret X hret rfl dL_figure_24 (PoW.no q (by decide) e1 e2 w hout)

theorem cmhL_scene : CMH yL_scene cL_scene 9 (some .int) [(0, 18, 21, 13), (0, 18, 25, 15)] 8 := ⟨⟨List.mem_of_getElem? (i := 676) (by decide +kernel), by decide +kernel⟩, ⟨List.mem_of_getElem? (i := 53) (by decide +kernel), by decide +kernel⟩, ⟨by decide, by decide⟩, by decide +kernel, ⟨List.mem_of_getElem? (i := 675) (by decide +kernel), by decide +kernel⟩⟩
set_option maxHeartbeats 4000000 in
set_option maxRecDepth 100000 in
theorem k_L_scene {l : Launch} {s0 : State} {a0 : Array Value} {G : GG} (X : CX l s0 a0 G) (hN : NX s0) {h : AH} {ke out : Nat} {A : KA} {σ : NS} {g : Nat → Int64} (w : KelW G h 1 ke A σ) (ez : EZ G h) (hout : h out = some (3, oOut g)) (x : Int32) (y : Int32) (z : Int32) (u : Int32) (v9 : Int32) (w9 : Int32) : ConO l s0 G yL_scene cL_scene 9 (some .int) [(0, 18, 21, 13), (0, 18, 25, 15)] 10 2 25 1 [.ref ke, .int x, .int y, .int z, .int u, .int v9, .int w9, .ref out] h (hide out h) (PoW G ke out (sp_scene σ x y z u v9 w9) (sp_scene σ x y z u v9 w9).2.1.toInt64) := by
  refine ConO.of X (by decide +kernel) [some (.ref ke), some (.int x), some (.int y), some (.int z), some (.int u), some (.int v9), some (.int w9), some (.ref out), none] rfl (Nat.le_of_ble_eq_true rfl) FrT_hide (fun p e s m below meth c X hnm hret hE => ?_)
  refine aw_ald7 X dL_scene_0 rfl ?_
  refine aw_iconst X (0) dL_scene_2 (by decide) rfl ?_
  refine aw_ald0 X dL_scene_3 rfl ?_
  refine aw_ild1 X dL_scene_4 rfl ?_
  refine aw_ild2 X dL_scene_5 rfl ?_
  refine aw_ild3 X dL_scene_6 rfl ?_
  refine aw_ild4 X dL_scene_7 rfl ?_
  refine aw_ild5 X dL_scene_9 rfl ?_
  refine aw_ild6 X dL_scene_11 rfl ?_
  refine aw_callVX X dL_scene_13 rfl (k_X6_scene X.1 (by decide) w x y z u v9 w9) cmX6_scene ml_L_23 rfl w.1 rfl rfl (Nat.le_of_ble_eq_true rfl) ⟨Nat.le_of_ble_eq_true rfl, Nat.le_of_ble_eq_true rfl⟩ (fun r h2 hq hf => ?_) (fun E h2 hq hf => ?_)
  · obtain ⟨e1, rfl, A2, w2⟩ := hq
    have ho2 : h2 out = some (3, oOut g) := hf.1 _ _ _ hout (by decide)
    have ez2 := ez.fr hf (by decide)
    refine aw_i2l X dL_scene_16 rfl ?_
    refine aw_lastO X 0 dL_scene_17 rfl (by decide) hide_o ho2 rfl (by decide) (by decide) ?_
    refine aw_goto (n := 29) X dL_scene_18 rfl ?_
    refine aw_iconst X (0) dL_scene_29 (by decide) rfl ?_
    exact aw_iret X hret rfl dL_scene_30 (PoW.yes e1 rfl w2 ez2 ho2)
  · obtain ⟨e1, e2, e3, rfl⟩ := hq
    have hlt : (sp_scene σ x y z u v9 w9).1 - 1 < 2 := (List.getElem?_eq_some_iff.mp e3).1
    have hcs : (sp_scene σ x y z u v9 w9).1 = 1 ∨ (sp_scene σ x y z u v9 w9).1 = 2 := by omega
    rcases hcs with q | q
    · rw [q] at e3
      obtain rfl : eA = E := Option.some.inj e3
      refine aw_catch X [] ⟨0, 18, 21, 13⟩ [⟨0, 18, 25, 15⟩] (hE.trans rfl) (fun z hz => absurd hz List.not_mem_nil) (by decide) (by decide) cc_L_13 (List.mem_of_getElem? (i := 430) (by decide +kernel)) rfl (fun q9 => ?_)
      refine aw_ast8 X dL_scene_21 rfl (by decide) rfl ?_
      refine aw_iconst X (1) dL_scene_23 (by decide) rfl ?_
      exact aw_iret X hret rfl dL_scene_24 (PoW.no q (by decide) e1 e2 w hout)
    · rw [q] at e3
      obtain rfl : eS = E := Option.some.inj e3
      refine aw_catch X [⟨0, 18, 21, 13⟩] ⟨0, 18, 25, 15⟩ [] (hE.trans rfl) (fun z hz => by
            rw [List.mem_singleton.mp hz]; exact ⟨by decide, eA, cc_L_13, hN.1⟩) (by decide) (by decide) cc_L_15 (List.mem_of_getElem? (i := 498) (by decide +kernel)) rfl (fun q9 => ?_)
      refine aw_ast8 X dL_scene_25 rfl (by decide) rfl ?_
      refine aw_iconst X (2) dL_scene_27 (by decide) rfl ?_
      exact aw_iret X hret rfl dL_scene_28 (PoW.no q (by decide) e1 e2 w hout)

theorem cmhL_length : CMH yL_length cL_length 5 (some .int) [(0, 10, 13, 21), (0, 10, 17, 13), (0, 10, 21, 15)] 4 := ⟨⟨List.mem_of_getElem? (i := 753) (by decide +kernel), by decide +kernel⟩, ⟨List.mem_of_getElem? (i := 53) (by decide +kernel), by decide +kernel⟩, ⟨by decide, by decide⟩, by decide +kernel, ⟨List.mem_of_getElem? (i := 752) (by decide +kernel), by decide +kernel⟩⟩
set_option maxHeartbeats 4000000 in
set_option maxRecDepth 100000 in
theorem k_L_length {l : Launch} {s0 : State} {a0 : Array Value} {G : GG} (X : CX l s0 a0 G) (hN : NX s0) {h : AH} {ke out : Nat} {A : KA} {σ : NS} {g : Nat → Int64} (w : KelW G h 1 ke A σ) (ez : EZ G h) (hout : h out = some (3, oOut g)) (x : Int32) (y : Int32) : ConO l s0 G yL_length cL_length 5 (some .int) [(0, 10, 13, 21), (0, 10, 17, 13), (0, 10, 21, 15)] 10 1 6 1 [.ref ke, .int x, .int y, .ref out] h (hide out h) (PoW G ke out (sp_length σ x y) (sp_length σ x y).2.1.toInt64) := by
  refine ConO.of X (by decide +kernel) [some (.ref ke), some (.int x), some (.int y), some (.ref out), none] rfl (Nat.le_of_ble_eq_true rfl) FrT_hide (fun p e s m below meth c X hnm hret hE => ?_)
  refine aw_ald3 X dL_length_0 rfl ?_
  refine aw_iconst X (0) dL_length_1 (by decide) rfl ?_
  refine aw_ald0 X dL_length_2 rfl ?_
  refine aw_ild1 X dL_length_3 rfl ?_
  refine aw_ild2 X dL_length_4 rfl ?_
  refine aw_callVX X dL_length_5 rfl (k_X6_length X.1 (by decide) w x y) cmX6_length ml_L_27 rfl w.1 rfl rfl (Nat.le_of_ble_eq_true rfl) ⟨Nat.le_of_ble_eq_true rfl, Nat.le_of_ble_eq_true rfl⟩ (fun r h2 hq hf => ?_) (fun E h2 hq hf => ?_)
  · obtain ⟨e1, rfl, A2, w2⟩ := hq
    have ho2 : h2 out = some (3, oOut g) := hf.1 _ _ _ hout (by decide)
    have ez2 := ez.fr hf (by decide)
    refine aw_i2l X dL_length_8 rfl ?_
    refine aw_lastO X 0 dL_length_9 rfl (by decide) hide_o ho2 rfl (by decide) (by decide) ?_
    refine aw_goto (n := 25) X dL_length_10 rfl ?_
    refine aw_iconst X (0) dL_length_25 (by decide) rfl ?_
    exact aw_iret X hret rfl dL_length_26 (PoW.yes e1 rfl w2 ez2 ho2)
  · obtain ⟨e1, e2, e3, rfl⟩ := hq
    have hlt : (sp_length σ x y).1 - 1 < 3 := (List.getElem?_eq_some_iff.mp e3).1
    have hcs : (sp_length σ x y).1 = 1 ∨ (sp_length σ x y).1 = 2 ∨ (sp_length σ x y).1 = 3 := by omega
    rcases hcs with q | q | q
    · rw [q] at e3
      obtain rfl : eI = E := Option.some.inj e3
      refine aw_catch X [] ⟨0, 10, 13, 21⟩ [⟨0, 10, 17, 13⟩, ⟨0, 10, 21, 15⟩] (hE.trans rfl) (fun z hz => absurd hz List.not_mem_nil) (by decide) (by decide) cc_L_21 (List.mem_of_getElem? (i := 618) (by decide +kernel)) rfl (fun q9 => ?_)
      refine aw_ast4 X dL_length_13 rfl (by decide) rfl ?_
      refine aw_iconst X (1) dL_length_15 (by decide) rfl ?_
      exact aw_iret X hret rfl dL_length_16 (PoW.no q (by decide) e1 e2 w hout)
    · rw [q] at e3
      obtain rfl : eA = E := Option.some.inj e3
      refine aw_catch X [⟨0, 10, 13, 21⟩] ⟨0, 10, 17, 13⟩ [⟨0, 10, 21, 15⟩] (hE.trans rfl) (fun z hz => by
            rw [List.mem_singleton.mp hz]; exact ⟨by decide, eI, cc_L_21, hN.2.2.2.2.1⟩) (by decide) (by decide) cc_L_13 (List.mem_of_getElem? (i := 430) (by decide +kernel)) rfl (fun q9 => ?_)
      refine aw_ast4 X dL_length_17 rfl (by decide) rfl ?_
      refine aw_iconst X (2) dL_length_19 (by decide) rfl ?_
      exact aw_iret X hret rfl dL_length_20 (PoW.no q (by decide) e1 e2 w hout)
    · rw [q] at e3
      obtain rfl : eS = E := Option.some.inj e3
      refine aw_catch X [⟨0, 10, 13, 21⟩, ⟨0, 10, 17, 13⟩] ⟨0, 10, 21, 15⟩ [] (hE.trans rfl) (fun z hz => by
            rcases List.mem_cons.mp hz with hz | hz
            · rw [hz]; exact ⟨by decide, eI, cc_L_21, hN.2.2.2.2.2⟩
            · rw [List.mem_singleton.mp hz]; exact ⟨by decide, eA, cc_L_13, hN.1⟩) (by decide) (by decide) cc_L_15 (List.mem_of_getElem? (i := 498) (by decide +kernel)) rfl (fun q9 => ?_)
      refine aw_ast4 X dL_length_21 rfl (by decide) rfl ?_
      refine aw_iconst X (3) dL_length_23 (by decide) rfl ?_
      exact aw_iret X hret rfl dL_length_24 (PoW.no q (by decide) e1 e2 w hout)

theorem cmhL_swap : CMH yL_swap cL_swap 5 (some .int) [(0, 10, 13, 21), (0, 10, 17, 15)] 4 := ⟨⟨List.mem_of_getElem? (i := 772) (by decide +kernel), by decide +kernel⟩, ⟨List.mem_of_getElem? (i := 53) (by decide +kernel), by decide +kernel⟩, ⟨by decide, by decide⟩, by decide +kernel, ⟨List.mem_of_getElem? (i := 771) (by decide +kernel), by decide +kernel⟩⟩
set_option maxHeartbeats 4000000 in
set_option maxRecDepth 100000 in
theorem k_L_swap {l : Launch} {s0 : State} {a0 : Array Value} {G : GG} (X : CX l s0 a0 G) (hN : NX s0) {h : AH} {ke out : Nat} {A : KA} {σ : NS} {g : Nat → Int64} (w : KelW G h 1 ke A σ) (ez : EZ G h) (hout : h out = some (3, oOut g)) (x : Int32) (y : Int32) : ConO l s0 G yL_swap cL_swap 5 (some .int) [(0, 10, 13, 21), (0, 10, 17, 15)] 10 1 6 1 [.ref ke, .int x, .int y, .ref out] h (hide out h) (PoW G ke out (sp_swap σ x y) (sp_swap σ x y).2.1.toInt64) := by
  refine ConO.of X (by decide +kernel) [some (.ref ke), some (.int x), some (.int y), some (.ref out), none] rfl (Nat.le_of_ble_eq_true rfl) FrT_hide (fun p e s m below meth c X hnm hret hE => ?_)
  refine aw_ald3 X dL_swap_0 rfl ?_
  refine aw_iconst X (0) dL_swap_1 (by decide) rfl ?_
  refine aw_ald0 X dL_swap_2 rfl ?_
  refine aw_ild1 X dL_swap_3 rfl ?_
  refine aw_ild2 X dL_swap_4 rfl ?_
  refine aw_callVX X dL_swap_5 rfl (k_X6_swap X.1 (by decide) w x y) cmX6_swap ml_L_30 rfl w.1 rfl rfl (Nat.le_of_ble_eq_true rfl) ⟨Nat.le_of_ble_eq_true rfl, Nat.le_of_ble_eq_true rfl⟩ (fun r h2 hq hf => ?_) (fun E h2 hq hf => ?_)
  · obtain ⟨e1, rfl, A2, w2⟩ := hq
    have ho2 : h2 out = some (3, oOut g) := hf.1 _ _ _ hout (by decide)
    have ez2 := ez.fr hf (by decide)
    refine aw_i2l X dL_swap_8 rfl ?_
    refine aw_lastO X 0 dL_swap_9 rfl (by decide) hide_o ho2 rfl (by decide) (by decide) ?_
    refine aw_goto (n := 21) X dL_swap_10 rfl ?_
    refine aw_iconst X (0) dL_swap_21 (by decide) rfl ?_
    exact aw_iret X hret rfl dL_swap_22 (PoW.yes e1 rfl w2 ez2 ho2)
  · obtain ⟨e1, e2, e3, rfl⟩ := hq
    have hlt : (sp_swap σ x y).1 - 1 < 2 := (List.getElem?_eq_some_iff.mp e3).1
    have hcs : (sp_swap σ x y).1 = 1 ∨ (sp_swap σ x y).1 = 2 := by omega
    rcases hcs with q | q
    · rw [q] at e3
      obtain rfl : eI = E := Option.some.inj e3
      refine aw_catch X [] ⟨0, 10, 13, 21⟩ [⟨0, 10, 17, 15⟩] (hE.trans rfl) (fun z hz => absurd hz List.not_mem_nil) (by decide) (by decide) cc_L_21 (List.mem_of_getElem? (i := 618) (by decide +kernel)) rfl (fun q9 => ?_)
      refine aw_ast4 X dL_swap_13 rfl (by decide) rfl ?_
      refine aw_iconst X (1) dL_swap_15 (by decide) rfl ?_
      exact aw_iret X hret rfl dL_swap_16 (PoW.no q (by decide) e1 e2 w hout)
    · rw [q] at e3
      obtain rfl : eS = E := Option.some.inj e3
      refine aw_catch X [⟨0, 10, 13, 21⟩] ⟨0, 10, 17, 15⟩ [] (hE.trans rfl) (fun z hz => by
            rw [List.mem_singleton.mp hz]; exact ⟨by decide, eI, cc_L_21, hN.2.2.2.2.2⟩) (by decide) (by decide) cc_L_15 (List.mem_of_getElem? (i := 498) (by decide +kernel)) rfl (fun q9 => ?_)
      refine aw_ast4 X dL_swap_17 rfl (by decide) rfl ?_
      refine aw_iconst X (2) dL_swap_19 (by decide) rfl ?_
      exact aw_iret X hret rfl dL_swap_20 (PoW.no q (by decide) e1 e2 w hout)

theorem cmhL_lamp : CMH yL_lamp cL_lamp 5 (some .int) [(0, 10, 13, 13)] 4 := ⟨⟨List.mem_of_getElem? (i := 781) (by decide +kernel), by decide +kernel⟩, ⟨List.mem_of_getElem? (i := 53) (by decide +kernel), by decide +kernel⟩, ⟨by decide, by decide⟩, by decide +kernel, ⟨List.mem_of_getElem? (i := 780) (by decide +kernel), by decide +kernel⟩⟩
set_option maxHeartbeats 4000000 in
set_option maxRecDepth 100000 in
theorem k_L_lamp {l : Launch} {s0 : State} {a0 : Array Value} {G : GG} (X : CX l s0 a0 G) (hN : NX s0) {h : AH} {ke out : Nat} {A : KA} {σ : NS} {g : Nat → Int64} (w : KelW G h 1 ke A σ) (ez : EZ G h) (hout : h out = some (3, oOut g)) (x : Int32) (y : Int32) : ConO l s0 G yL_lamp cL_lamp 5 (some .int) [(0, 10, 13, 13)] 10 1 6 1 [.ref ke, .int x, .int y, .ref out] h (hide out h) (PoW G ke out (sp_lamp σ x y) (sp_lamp σ x y).2.1.toInt64) := by
  refine ConO.of X (by decide +kernel) [some (.ref ke), some (.int x), some (.int y), some (.ref out), none] rfl (Nat.le_of_ble_eq_true rfl) FrT_hide (fun p e s m below meth c X hnm hret hE => ?_)
  refine aw_ald3 X dL_lamp_0 rfl ?_
  refine aw_iconst X (0) dL_lamp_1 (by decide) rfl ?_
  refine aw_ald0 X dL_lamp_2 rfl ?_
  refine aw_ild1 X dL_lamp_3 rfl ?_
  refine aw_ild2 X dL_lamp_4 rfl ?_
  refine aw_callVX X dL_lamp_5 rfl (k_X6_lamp X.1 (by decide) w x y) cmX6_lamp ml_L_33 rfl w.1 rfl rfl (Nat.le_of_ble_eq_true rfl) ⟨Nat.le_of_ble_eq_true rfl, Nat.le_of_ble_eq_true rfl⟩ (fun r h2 hq hf => ?_) (fun E h2 hq hf => ?_)
  · obtain ⟨e1, rfl, A2, w2⟩ := hq
    have ho2 : h2 out = some (3, oOut g) := hf.1 _ _ _ hout (by decide)
    have ez2 := ez.fr hf (by decide)
    refine aw_i2l X dL_lamp_8 rfl ?_
    refine aw_lastO X 0 dL_lamp_9 rfl (by decide) hide_o ho2 rfl (by decide) (by decide) ?_
    refine aw_goto (n := 17) X dL_lamp_10 rfl ?_
    refine aw_iconst X (0) dL_lamp_17 (by decide) rfl ?_
    exact aw_iret X hret rfl dL_lamp_18 (PoW.yes e1 rfl w2 ez2 ho2)
  · obtain ⟨e1, e2, e3, rfl⟩ := hq
    have hlt : (sp_lamp σ x y).1 - 1 < 1 := (List.getElem?_eq_some_iff.mp e3).1
    have hcs : (sp_lamp σ x y).1 = 1 := by omega
    have q := hcs
    rw [q] at e3
    obtain rfl : eA = E := Option.some.inj e3
    refine aw_catch X [] ⟨0, 10, 13, 13⟩ [] (hE.trans rfl) (fun z hz => absurd hz List.not_mem_nil) (by decide) (by decide) cc_L_13 (List.mem_of_getElem? (i := 430) (by decide +kernel)) rfl (fun q9 => ?_)
    refine aw_ast4 X dL_lamp_13 rfl (by decide) rfl ?_
    refine aw_iconst X (1) dL_lamp_15 (by decide) rfl ?_
    exact aw_iret X hret rfl dL_lamp_16 (PoW.no q (by decide) e1 e2 w hout)

theorem cmhL_grip : CMH yL_grip cL_grip 4 (some .int) [(0, 9, 12, 21), (0, 9, 15, 15)] 3 := ⟨⟨List.mem_of_getElem? (i := 789) (by decide +kernel), by decide +kernel⟩, ⟨List.mem_of_getElem? (i := 53) (by decide +kernel), by decide +kernel⟩, ⟨by decide, by decide⟩, by decide +kernel, ⟨List.mem_of_getElem? (i := 788) (by decide +kernel), by decide +kernel⟩⟩
set_option maxHeartbeats 4000000 in
set_option maxRecDepth 100000 in
theorem k_L_grip {l : Launch} {s0 : State} {a0 : Array Value} {G : GG} (X : CX l s0 a0 G) (hN : NX s0) {h : AH} {ke out : Nat} {A : KA} {σ : NS} {g : Nat → Int64} (w : KelW G h 1 ke A σ) (ez : EZ G h) (hout : h out = some (3, oOut g)) (x : Int32) : ConO l s0 G yL_grip cL_grip 4 (some .int) [(0, 9, 12, 21), (0, 9, 15, 15)] 10 1 6 1 [.ref ke, .int x, .ref out] h (hide out h) (PoW G ke out (sp_grip σ x) (sp_grip σ x).2.1.toInt64) := by
  refine ConO.of X (by decide +kernel) [some (.ref ke), some (.int x), some (.ref out), none] rfl (Nat.le_of_ble_eq_true rfl) FrT_hide (fun p e s m below meth c X hnm hret hE => ?_)
  refine aw_ald2 X dL_grip_0 rfl ?_
  refine aw_iconst X (0) dL_grip_1 (by decide) rfl ?_
  refine aw_ald0 X dL_grip_2 rfl ?_
  refine aw_ild1 X dL_grip_3 rfl ?_
  refine aw_callVX X dL_grip_4 rfl (k_X6_grip X.1 (by decide) w x) cmX6_grip ml_L_36 rfl w.1 rfl rfl (Nat.le_of_ble_eq_true rfl) ⟨Nat.le_of_ble_eq_true rfl, Nat.le_of_ble_eq_true rfl⟩ (fun r h2 hq hf => ?_) (fun E h2 hq hf => ?_)
  · obtain ⟨e1, rfl, A2, w2⟩ := hq
    have ho2 : h2 out = some (3, oOut g) := hf.1 _ _ _ hout (by decide)
    have ez2 := ez.fr hf (by decide)
    refine aw_i2l X dL_grip_7 rfl ?_
    refine aw_lastO X 0 dL_grip_8 rfl (by decide) hide_o ho2 rfl (by decide) (by decide) ?_
    refine aw_goto (n := 18) X dL_grip_9 rfl ?_
    refine aw_iconst X (0) dL_grip_18 (by decide) rfl ?_
    exact aw_iret X hret rfl dL_grip_19 (PoW.yes e1 rfl w2 ez2 ho2)
  · obtain ⟨e1, e2, e3, rfl⟩ := hq
    have hlt : (sp_grip σ x).1 - 1 < 2 := (List.getElem?_eq_some_iff.mp e3).1
    have hcs : (sp_grip σ x).1 = 1 ∨ (sp_grip σ x).1 = 2 := by omega
    rcases hcs with q | q
    · rw [q] at e3
      obtain rfl : eI = E := Option.some.inj e3
      refine aw_catch X [] ⟨0, 9, 12, 21⟩ [⟨0, 9, 15, 15⟩] (hE.trans rfl) (fun z hz => absurd hz List.not_mem_nil) (by decide) (by decide) cc_L_21 (List.mem_of_getElem? (i := 618) (by decide +kernel)) rfl (fun q9 => ?_)
      refine aw_ast3 X dL_grip_12 rfl (by decide) rfl ?_
      refine aw_iconst X (1) dL_grip_13 (by decide) rfl ?_
      exact aw_iret X hret rfl dL_grip_14 (PoW.no q (by decide) e1 e2 w hout)
    · rw [q] at e3
      obtain rfl : eS = E := Option.some.inj e3
      refine aw_catch X [⟨0, 9, 12, 21⟩] ⟨0, 9, 15, 15⟩ [] (hE.trans rfl) (fun z hz => by
            rw [List.mem_singleton.mp hz]; exact ⟨by decide, eI, cc_L_21, hN.2.2.2.2.2⟩) (by decide) (by decide) cc_L_15 (List.mem_of_getElem? (i := 498) (by decide +kernel)) rfl (fun q9 => ?_)
      refine aw_ast3 X dL_grip_15 rfl (by decide) rfl ?_
      refine aw_iconst X (2) dL_grip_16 (by decide) rfl ?_
      exact aw_iret X hret rfl dL_grip_17 (PoW.no q (by decide) e1 e2 w hout)

theorem cmhL_move : CMH yL_move cL_move 5 (some .int) [(0, 10, 13, 21), (0, 10, 17, 13), (0, 10, 21, 15)] 4 := ⟨⟨List.mem_of_getElem? (i := 804) (by decide +kernel), by decide +kernel⟩, ⟨List.mem_of_getElem? (i := 53) (by decide +kernel), by decide +kernel⟩, ⟨by decide, by decide⟩, by decide +kernel, ⟨List.mem_of_getElem? (i := 803) (by decide +kernel), by decide +kernel⟩⟩
set_option maxHeartbeats 4000000 in
set_option maxRecDepth 100000 in
theorem k_L_move {l : Launch} {s0 : State} {a0 : Array Value} {G : GG} (X : CX l s0 a0 G) (hN : NX s0) {h : AH} {ke out : Nat} {A : KA} {σ : NS} {g : Nat → Int64} (w : KelW G h 1 ke A σ) (ez : EZ G h) (hout : h out = some (3, oOut g)) (x : Int32) (y : Int32) : ConO l s0 G yL_move cL_move 5 (some .int) [(0, 10, 13, 21), (0, 10, 17, 13), (0, 10, 21, 15)] 10 1 6 1 [.ref ke, .int x, .int y, .ref out] h (hide out h) (PoW G ke out (sp_move σ x y) (sp_move σ x y).2.1.toInt64) := by
  refine ConO.of X (by decide +kernel) [some (.ref ke), some (.int x), some (.int y), some (.ref out), none] rfl (Nat.le_of_ble_eq_true rfl) FrT_hide (fun p e s m below meth c X hnm hret hE => ?_)
  refine aw_ald3 X dL_move_0 rfl ?_
  refine aw_iconst X (0) dL_move_1 (by decide) rfl ?_
  refine aw_ald0 X dL_move_2 rfl ?_
  refine aw_ild1 X dL_move_3 rfl ?_
  refine aw_ild2 X dL_move_4 rfl ?_
  refine aw_callVX X dL_move_5 rfl (k_X6_move X.1 (by decide) w x y) cmX6_move ml_L_40 rfl w.1 rfl rfl (Nat.le_of_ble_eq_true rfl) ⟨Nat.le_of_ble_eq_true rfl, Nat.le_of_ble_eq_true rfl⟩ (fun r h2 hq hf => ?_) (fun E h2 hq hf => ?_)
  · obtain ⟨e1, rfl, A2, w2⟩ := hq
    have ho2 : h2 out = some (3, oOut g) := hf.1 _ _ _ hout (by decide)
    have ez2 := ez.fr hf (by decide)
    refine aw_i2l X dL_move_8 rfl ?_
    refine aw_lastO X 0 dL_move_9 rfl (by decide) hide_o ho2 rfl (by decide) (by decide) ?_
    refine aw_goto (n := 25) X dL_move_10 rfl ?_
    refine aw_iconst X (0) dL_move_25 (by decide) rfl ?_
    exact aw_iret X hret rfl dL_move_26 (PoW.yes e1 rfl w2 ez2 ho2)
  · obtain ⟨e1, e2, e3, rfl⟩ := hq
    have hlt : (sp_move σ x y).1 - 1 < 3 := (List.getElem?_eq_some_iff.mp e3).1
    have hcs : (sp_move σ x y).1 = 1 ∨ (sp_move σ x y).1 = 2 ∨ (sp_move σ x y).1 = 3 := by omega
    rcases hcs with q | q | q
    · rw [q] at e3
      obtain rfl : eI = E := Option.some.inj e3
      refine aw_catch X [] ⟨0, 10, 13, 21⟩ [⟨0, 10, 17, 13⟩, ⟨0, 10, 21, 15⟩] (hE.trans rfl) (fun z hz => absurd hz List.not_mem_nil) (by decide) (by decide) cc_L_21 (List.mem_of_getElem? (i := 618) (by decide +kernel)) rfl (fun q9 => ?_)
      refine aw_ast4 X dL_move_13 rfl (by decide) rfl ?_
      refine aw_iconst X (1) dL_move_15 (by decide) rfl ?_
      exact aw_iret X hret rfl dL_move_16 (PoW.no q (by decide) e1 e2 w hout)
    · rw [q] at e3
      obtain rfl : eA = E := Option.some.inj e3
      refine aw_catch X [⟨0, 10, 13, 21⟩] ⟨0, 10, 17, 13⟩ [⟨0, 10, 21, 15⟩] (hE.trans rfl) (fun z hz => by
            rw [List.mem_singleton.mp hz]; exact ⟨by decide, eI, cc_L_21, hN.2.2.2.2.1⟩) (by decide) (by decide) cc_L_13 (List.mem_of_getElem? (i := 430) (by decide +kernel)) rfl (fun q9 => ?_)
      refine aw_ast4 X dL_move_17 rfl (by decide) rfl ?_
      refine aw_iconst X (2) dL_move_19 (by decide) rfl ?_
      exact aw_iret X hret rfl dL_move_20 (PoW.no q (by decide) e1 e2 w hout)
    · rw [q] at e3
      obtain rfl : eS = E := Option.some.inj e3
      refine aw_catch X [⟨0, 10, 13, 21⟩, ⟨0, 10, 17, 13⟩] ⟨0, 10, 21, 15⟩ [] (hE.trans rfl) (fun z hz => by
            rcases List.mem_cons.mp hz with hz | hz
            · rw [hz]; exact ⟨by decide, eI, cc_L_21, hN.2.2.2.2.2⟩
            · rw [List.mem_singleton.mp hz]; exact ⟨by decide, eA, cc_L_13, hN.1⟩) (by decide) (by decide) cc_L_15 (List.mem_of_getElem? (i := 498) (by decide +kernel)) rfl (fun q9 => ?_)
      refine aw_ast4 X dL_move_21 rfl (by decide) rfl ?_
      refine aw_iconst X (3) dL_move_23 (by decide) rfl ?_
      exact aw_iret X hret rfl dL_move_24 (PoW.no q (by decide) e1 e2 w hout)

theorem cmhL_lift : CMH yL_lift cL_lift 5 (some .int) [(0, 10, 13, 21), (0, 10, 17, 13), (0, 10, 21, 15)] 4 := ⟨⟨List.mem_of_getElem? (i := 829) (by decide +kernel), by decide +kernel⟩, ⟨List.mem_of_getElem? (i := 53) (by decide +kernel), by decide +kernel⟩, ⟨by decide, by decide⟩, by decide +kernel, ⟨List.mem_of_getElem? (i := 828) (by decide +kernel), by decide +kernel⟩⟩
set_option maxHeartbeats 4000000 in
set_option maxRecDepth 100000 in
theorem k_L_lift {l : Launch} {s0 : State} {a0 : Array Value} {G : GG} (X : CX l s0 a0 G) (hN : NX s0) {h : AH} {ke out : Nat} {A : KA} {σ : NS} {g : Nat → Int64} (w : KelW G h 1 ke A σ) (ez : EZ G h) (hout : h out = some (3, oOut g)) (x : Int32) (y : Int32) : ConO l s0 G yL_lift cL_lift 5 (some .int) [(0, 10, 13, 21), (0, 10, 17, 13), (0, 10, 21, 15)] 10 1 6 1 [.ref ke, .int x, .int y, .ref out] h (hide out h) (PoW G ke out (sp_lift σ x y) (sp_lift σ x y).2.1.toInt64) := by
  refine ConO.of X (by decide +kernel) [some (.ref ke), some (.int x), some (.int y), some (.ref out), none] rfl (Nat.le_of_ble_eq_true rfl) FrT_hide (fun p e s m below meth c X hnm hret hE => ?_)
  refine aw_ald3 X dL_lift_0 rfl ?_
  refine aw_iconst X (0) dL_lift_1 (by decide) rfl ?_
  refine aw_ald0 X dL_lift_2 rfl ?_
  refine aw_ild1 X dL_lift_3 rfl ?_
  refine aw_ild2 X dL_lift_4 rfl ?_
  refine aw_callVX X dL_lift_5 rfl (k_X6_lift X.1 (by decide) w x y) cmX6_lift ml_L_43 rfl w.1 rfl rfl (Nat.le_of_ble_eq_true rfl) ⟨Nat.le_of_ble_eq_true rfl, Nat.le_of_ble_eq_true rfl⟩ (fun r h2 hq hf => ?_) (fun E h2 hq hf => ?_)
  · obtain ⟨e1, rfl, A2, w2⟩ := hq
    have ho2 : h2 out = some (3, oOut g) := hf.1 _ _ _ hout (by decide)
    have ez2 := ez.fr hf (by decide)
    refine aw_i2l X dL_lift_8 rfl ?_
    refine aw_lastO X 0 dL_lift_9 rfl (by decide) hide_o ho2 rfl (by decide) (by decide) ?_
    refine aw_goto (n := 25) X dL_lift_10 rfl ?_
    refine aw_iconst X (0) dL_lift_25 (by decide) rfl ?_
    exact aw_iret X hret rfl dL_lift_26 (PoW.yes e1 rfl w2 ez2 ho2)
  · obtain ⟨e1, e2, e3, rfl⟩ := hq
    have hlt : (sp_lift σ x y).1 - 1 < 3 := (List.getElem?_eq_some_iff.mp e3).1
    have hcs : (sp_lift σ x y).1 = 1 ∨ (sp_lift σ x y).1 = 2 ∨ (sp_lift σ x y).1 = 3 := by omega
    rcases hcs with q | q | q
    · rw [q] at e3
      obtain rfl : eI = E := Option.some.inj e3
      refine aw_catch X [] ⟨0, 10, 13, 21⟩ [⟨0, 10, 17, 13⟩, ⟨0, 10, 21, 15⟩] (hE.trans rfl) (fun z hz => absurd hz List.not_mem_nil) (by decide) (by decide) cc_L_21 (List.mem_of_getElem? (i := 618) (by decide +kernel)) rfl (fun q9 => ?_)
      refine aw_ast4 X dL_lift_13 rfl (by decide) rfl ?_
      refine aw_iconst X (1) dL_lift_15 (by decide) rfl ?_
      exact aw_iret X hret rfl dL_lift_16 (PoW.no q (by decide) e1 e2 w hout)
    · rw [q] at e3
      obtain rfl : eA = E := Option.some.inj e3
      refine aw_catch X [⟨0, 10, 13, 21⟩] ⟨0, 10, 17, 13⟩ [⟨0, 10, 21, 15⟩] (hE.trans rfl) (fun z hz => by
            rw [List.mem_singleton.mp hz]; exact ⟨by decide, eI, cc_L_21, hN.2.2.2.2.1⟩) (by decide) (by decide) cc_L_13 (List.mem_of_getElem? (i := 430) (by decide +kernel)) rfl (fun q9 => ?_)
      refine aw_ast4 X dL_lift_17 rfl (by decide) rfl ?_
      refine aw_iconst X (2) dL_lift_19 (by decide) rfl ?_
      exact aw_iret X hret rfl dL_lift_20 (PoW.no q (by decide) e1 e2 w hout)
    · rw [q] at e3
      obtain rfl : eS = E := Option.some.inj e3
      refine aw_catch X [⟨0, 10, 13, 21⟩, ⟨0, 10, 17, 13⟩] ⟨0, 10, 21, 15⟩ [] (hE.trans rfl) (fun z hz => by
            rcases List.mem_cons.mp hz with hz | hz
            · rw [hz]; exact ⟨by decide, eI, cc_L_21, hN.2.2.2.2.2⟩
            · rw [List.mem_singleton.mp hz]; exact ⟨by decide, eA, cc_L_13, hN.1⟩) (by decide) (by decide) cc_L_15 (List.mem_of_getElem? (i := 498) (by decide +kernel)) rfl (fun q9 => ?_)
      refine aw_ast4 X dL_lift_21 rfl (by decide) rfl ?_
      refine aw_iconst X (3) dL_lift_23 (by decide) rfl ?_
      exact aw_iret X hret rfl dL_lift_24 (PoW.no q (by decide) e1 e2 w hout)

theorem cmhL_plant : CMH yL_plant cL_plant 4 (some .int) [(0, 9, 12, 21), (0, 9, 15, 15)] 3 := ⟨⟨List.mem_of_getElem? (i := 839) (by decide +kernel), by decide +kernel⟩, ⟨List.mem_of_getElem? (i := 53) (by decide +kernel), by decide +kernel⟩, ⟨by decide, by decide⟩, by decide +kernel, ⟨List.mem_of_getElem? (i := 838) (by decide +kernel), by decide +kernel⟩⟩
set_option maxHeartbeats 4000000 in
set_option maxRecDepth 100000 in
theorem k_L_plant {l : Launch} {s0 : State} {a0 : Array Value} {G : GG} (X : CX l s0 a0 G) (hN : NX s0) {h : AH} {ke out : Nat} {A : KA} {σ : NS} {g : Nat → Int64} (w : KelW G h 1 ke A σ) (ez : EZ G h) (hout : h out = some (3, oOut g)) (x : Int32) : ConO l s0 G yL_plant cL_plant 4 (some .int) [(0, 9, 12, 21), (0, 9, 15, 15)] 10 1 6 1 [.ref ke, .int x, .ref out] h (hide out h) (PoW G ke out (sp_plant σ x) (sp_plant σ x).2.1.toInt64) := by
  refine ConO.of X (by decide +kernel) [some (.ref ke), some (.int x), some (.ref out), none] rfl (Nat.le_of_ble_eq_true rfl) FrT_hide (fun p e s m below meth c X hnm hret hE => ?_)
  refine aw_ald2 X dL_plant_0 rfl ?_
  refine aw_iconst X (0) dL_plant_1 (by decide) rfl ?_
  refine aw_ald0 X dL_plant_2 rfl ?_
  refine aw_ild1 X dL_plant_3 rfl ?_
  refine aw_callVX X dL_plant_4 rfl (k_X6_plant X.1 (by decide) w x) cmX6_plant ml_L_46 rfl w.1 rfl rfl (Nat.le_of_ble_eq_true rfl) ⟨Nat.le_of_ble_eq_true rfl, Nat.le_of_ble_eq_true rfl⟩ (fun r h2 hq hf => ?_) (fun E h2 hq hf => ?_)
  · obtain ⟨e1, rfl, A2, w2⟩ := hq
    have ho2 : h2 out = some (3, oOut g) := hf.1 _ _ _ hout (by decide)
    have ez2 := ez.fr hf (by decide)
    refine aw_i2l X dL_plant_7 rfl ?_
    refine aw_lastO X 0 dL_plant_8 rfl (by decide) hide_o ho2 rfl (by decide) (by decide) ?_
    refine aw_goto (n := 18) X dL_plant_9 rfl ?_
    refine aw_iconst X (0) dL_plant_18 (by decide) rfl ?_
    exact aw_iret X hret rfl dL_plant_19 (PoW.yes e1 rfl w2 ez2 ho2)
  · obtain ⟨e1, e2, e3, rfl⟩ := hq
    have hlt : (sp_plant σ x).1 - 1 < 2 := (List.getElem?_eq_some_iff.mp e3).1
    have hcs : (sp_plant σ x).1 = 1 ∨ (sp_plant σ x).1 = 2 := by omega
    rcases hcs with q | q
    · rw [q] at e3
      obtain rfl : eI = E := Option.some.inj e3
      refine aw_catch X [] ⟨0, 9, 12, 21⟩ [⟨0, 9, 15, 15⟩] (hE.trans rfl) (fun z hz => absurd hz List.not_mem_nil) (by decide) (by decide) cc_L_21 (List.mem_of_getElem? (i := 618) (by decide +kernel)) rfl (fun q9 => ?_)
      refine aw_ast3 X dL_plant_12 rfl (by decide) rfl ?_
      refine aw_iconst X (1) dL_plant_13 (by decide) rfl ?_
      exact aw_iret X hret rfl dL_plant_14 (PoW.no q (by decide) e1 e2 w hout)
    · rw [q] at e3
      obtain rfl : eS = E := Option.some.inj e3
      refine aw_catch X [⟨0, 9, 12, 21⟩] ⟨0, 9, 15, 15⟩ [] (hE.trans rfl) (fun z hz => by
            rw [List.mem_singleton.mp hz]; exact ⟨by decide, eI, cc_L_21, hN.2.2.2.2.2⟩) (by decide) (by decide) cc_L_15 (List.mem_of_getElem? (i := 498) (by decide +kernel)) rfl (fun q9 => ?_)
      refine aw_ast3 X dL_plant_15 rfl (by decide) rfl ?_
      refine aw_iconst X (2) dL_plant_16 (by decide) rfl ?_
      exact aw_iret X hret rfl dL_plant_17 (PoW.no q (by decide) e1 e2 w hout)

theorem cmhL_hand : CMH yL_hand cL_hand 4 (some .int) [(0, 9, 12, 21), (0, 9, 15, 15)] 3 := ⟨⟨List.mem_of_getElem? (i := 846) (by decide +kernel), by decide +kernel⟩, ⟨List.mem_of_getElem? (i := 53) (by decide +kernel), by decide +kernel⟩, ⟨by decide, by decide⟩, by decide +kernel, ⟨List.mem_of_getElem? (i := 845) (by decide +kernel), by decide +kernel⟩⟩
set_option maxHeartbeats 4000000 in
set_option maxRecDepth 100000 in
theorem k_L_hand {l : Launch} {s0 : State} {a0 : Array Value} {G : GG} (X : CX l s0 a0 G) (hN : NX s0) {h : AH} {ke out : Nat} {A : KA} {σ : NS} {g : Nat → Int64} (w : KelW G h 1 ke A σ) (ez : EZ G h) (hout : h out = some (3, oOut g)) (x : Int32) : ConO l s0 G yL_hand cL_hand 4 (some .int) [(0, 9, 12, 21), (0, 9, 15, 15)] 10 1 6 1 [.ref ke, .int x, .ref out] h (hide out h) (PoW G ke out (sp_hand σ x) (sp_hand σ x).2.1.toInt64) := by
  refine ConO.of X (by decide +kernel) [some (.ref ke), some (.int x), some (.ref out), none] rfl (Nat.le_of_ble_eq_true rfl) FrT_hide (fun p e s m below meth c X hnm hret hE => ?_)
  refine aw_ald2 X dL_hand_0 rfl ?_
  refine aw_iconst X (0) dL_hand_1 (by decide) rfl ?_
  refine aw_ald0 X dL_hand_2 rfl ?_
  refine aw_ild1 X dL_hand_3 rfl ?_
  refine aw_callVX X dL_hand_4 rfl (k_X6_hand X.1 (by decide) w x) cmX6_hand ml_L_49 rfl w.1 rfl rfl (Nat.le_of_ble_eq_true rfl) ⟨Nat.le_of_ble_eq_true rfl, Nat.le_of_ble_eq_true rfl⟩ (fun r h2 hq hf => ?_) (fun E h2 hq hf => ?_)
  · obtain ⟨e1, rfl, A2, w2⟩ := hq
    have ho2 : h2 out = some (3, oOut g) := hf.1 _ _ _ hout (by decide)
    have ez2 := ez.fr hf (by decide)
    refine aw_i2l X dL_hand_7 rfl ?_
    refine aw_lastO X 0 dL_hand_8 rfl (by decide) hide_o ho2 rfl (by decide) (by decide) ?_
    refine aw_goto (n := 18) X dL_hand_9 rfl ?_
    refine aw_iconst X (0) dL_hand_18 (by decide) rfl ?_
    exact aw_iret X hret rfl dL_hand_19 (PoW.yes e1 rfl w2 ez2 ho2)
  · obtain ⟨e1, e2, e3, rfl⟩ := hq
    have hlt : (sp_hand σ x).1 - 1 < 2 := (List.getElem?_eq_some_iff.mp e3).1
    have hcs : (sp_hand σ x).1 = 1 ∨ (sp_hand σ x).1 = 2 := by omega
    rcases hcs with q | q
    · rw [q] at e3
      obtain rfl : eI = E := Option.some.inj e3
      refine aw_catch X [] ⟨0, 9, 12, 21⟩ [⟨0, 9, 15, 15⟩] (hE.trans rfl) (fun z hz => absurd hz List.not_mem_nil) (by decide) (by decide) cc_L_21 (List.mem_of_getElem? (i := 618) (by decide +kernel)) rfl (fun q9 => ?_)
      refine aw_ast3 X dL_hand_12 rfl (by decide) rfl ?_
      refine aw_iconst X (1) dL_hand_13 (by decide) rfl ?_
      exact aw_iret X hret rfl dL_hand_14 (PoW.no q (by decide) e1 e2 w hout)
    · rw [q] at e3
      obtain rfl : eS = E := Option.some.inj e3
      refine aw_catch X [⟨0, 9, 12, 21⟩] ⟨0, 9, 15, 15⟩ [] (hE.trans rfl) (fun z hz => by
            rw [List.mem_singleton.mp hz]; exact ⟨by decide, eI, cc_L_21, hN.2.2.2.2.2⟩) (by decide) (by decide) cc_L_15 (List.mem_of_getElem? (i := 498) (by decide +kernel)) rfl (fun q9 => ?_)
      refine aw_ast3 X dL_hand_15 rfl (by decide) rfl ?_
      refine aw_iconst X (2) dL_hand_16 (by decide) rfl ?_
      exact aw_iret X hret rfl dL_hand_17 (PoW.no q (by decide) e1 e2 w hout)

theorem cmhL_away : CMH yL_away cL_away 4 (some .int) [(0, 9, 12, 21), (0, 9, 15, 15)] 3 := ⟨⟨List.mem_of_getElem? (i := 855) (by decide +kernel), by decide +kernel⟩, ⟨List.mem_of_getElem? (i := 53) (by decide +kernel), by decide +kernel⟩, ⟨by decide, by decide⟩, by decide +kernel, ⟨List.mem_of_getElem? (i := 854) (by decide +kernel), by decide +kernel⟩⟩
set_option maxHeartbeats 4000000 in
set_option maxRecDepth 100000 in
theorem k_L_away {l : Launch} {s0 : State} {a0 : Array Value} {G : GG} (X : CX l s0 a0 G) (hN : NX s0) {h : AH} {ke out : Nat} {A : KA} {σ : NS} {g : Nat → Int64} (w : KelW G h 1 ke A σ) (ez : EZ G h) (hout : h out = some (3, oOut g)) (x : Int32) : ConO l s0 G yL_away cL_away 4 (some .int) [(0, 9, 12, 21), (0, 9, 15, 15)] 10 1 6 1 [.ref ke, .int x, .ref out] h (hide out h) (PoW G ke out (sp_away σ x) (sp_away σ x).2.1.toInt64) := by
  refine ConO.of X (by decide +kernel) [some (.ref ke), some (.int x), some (.ref out), none] rfl (Nat.le_of_ble_eq_true rfl) FrT_hide (fun p e s m below meth c X hnm hret hE => ?_)
  refine aw_ald2 X dL_away_0 rfl ?_
  refine aw_iconst X (0) dL_away_1 (by decide) rfl ?_
  refine aw_ald0 X dL_away_2 rfl ?_
  refine aw_ild1 X dL_away_3 rfl ?_
  refine aw_callVX X dL_away_4 rfl (k_X6_away X.1 (by decide) w x) cmX6_away ml_L_52 rfl w.1 rfl rfl (Nat.le_of_ble_eq_true rfl) ⟨Nat.le_of_ble_eq_true rfl, Nat.le_of_ble_eq_true rfl⟩ (fun r h2 hq hf => ?_) (fun E h2 hq hf => ?_)
  · obtain ⟨e1, rfl, A2, w2⟩ := hq
    have ho2 : h2 out = some (3, oOut g) := hf.1 _ _ _ hout (by decide)
    have ez2 := ez.fr hf (by decide)
    refine aw_i2l X dL_away_7 rfl ?_
    refine aw_lastO X 0 dL_away_8 rfl (by decide) hide_o ho2 rfl (by decide) (by decide) ?_
    refine aw_goto (n := 18) X dL_away_9 rfl ?_
    refine aw_iconst X (0) dL_away_18 (by decide) rfl ?_
    exact aw_iret X hret rfl dL_away_19 (PoW.yes e1 rfl w2 ez2 ho2)
  · obtain ⟨e1, e2, e3, rfl⟩ := hq
    have hlt : (sp_away σ x).1 - 1 < 2 := (List.getElem?_eq_some_iff.mp e3).1
    have hcs : (sp_away σ x).1 = 1 ∨ (sp_away σ x).1 = 2 := by omega
    rcases hcs with q | q
    · rw [q] at e3
      obtain rfl : eI = E := Option.some.inj e3
      refine aw_catch X [] ⟨0, 9, 12, 21⟩ [⟨0, 9, 15, 15⟩] (hE.trans rfl) (fun z hz => absurd hz List.not_mem_nil) (by decide) (by decide) cc_L_21 (List.mem_of_getElem? (i := 618) (by decide +kernel)) rfl (fun q9 => ?_)
      refine aw_ast3 X dL_away_12 rfl (by decide) rfl ?_
      refine aw_iconst X (1) dL_away_13 (by decide) rfl ?_
      exact aw_iret X hret rfl dL_away_14 (PoW.no q (by decide) e1 e2 w hout)
    · rw [q] at e3
      obtain rfl : eS = E := Option.some.inj e3
      refine aw_catch X [⟨0, 9, 12, 21⟩] ⟨0, 9, 15, 15⟩ [] (hE.trans rfl) (fun z hz => by
            rw [List.mem_singleton.mp hz]; exact ⟨by decide, eI, cc_L_21, hN.2.2.2.2.2⟩) (by decide) (by decide) cc_L_15 (List.mem_of_getElem? (i := 498) (by decide +kernel)) rfl (fun q9 => ?_)
      refine aw_ast3 X dL_away_15 rfl (by decide) rfl ?_
      refine aw_iconst X (2) dL_away_16 (by decide) rfl ?_
      exact aw_iret X hret rfl dL_away_17 (PoW.no q (by decide) e1 e2 w hout)

theorem cmhL_tap : CMH yL_tap cL_tap 4 (some .int) [(0, 16, 19, 13)] 3 := ⟨⟨List.mem_of_getElem? (i := 863) (by decide +kernel), by decide +kernel⟩, ⟨List.mem_of_getElem? (i := 53) (by decide +kernel), by decide +kernel⟩, ⟨by decide, by decide⟩, by decide +kernel, ⟨List.mem_of_getElem? (i := 862) (by decide +kernel), by decide +kernel⟩⟩
set_option maxHeartbeats 4000000 in
set_option maxRecDepth 100000 in
theorem k_L_tap {l : Launch} {s0 : State} {a0 : Array Value} {G : GG} (X : CX l s0 a0 G) (hN : NX s0) {h : AH} {ke out : Nat} {A : KA} {σ : NS} {g : Nat → Int64} (w : KelW G h 1 ke A σ) (ez : EZ G h) (hout : h out = some (3, oOut g)) (x : Int32) : ConO l s0 G yL_tap cL_tap 4 (some .int) [(0, 16, 19, 13)] 10 1 6 1 [.ref ke, .int x, .ref out] h (hide out h) (PoW G ke out (sp_tap σ x) (if (sp_tap σ x).2.1 = 0 then (0 : Int64) else 1)) := by
  refine ConO.of X (by decide +kernel) [some (.ref ke), some (.int x), some (.ref out), none] rfl (Nat.le_of_ble_eq_true rfl) FrT_hide (fun p e s m below meth c X hnm hret hE => ?_)
  refine aw_ald2 X dL_tap_0 rfl ?_
  refine aw_iconst X (0) dL_tap_1 (by decide) rfl ?_
  refine aw_ald0 X dL_tap_2 rfl ?_
  refine aw_ild1 X dL_tap_3 rfl ?_
  refine aw_callVX X dL_tap_4 rfl (k_X6_tap X.1 (by decide) w x) cmX6_tap ml_L_55 rfl w.1 rfl rfl (Nat.le_of_ble_eq_true rfl) ⟨Nat.le_of_ble_eq_true rfl, Nat.le_of_ble_eq_true rfl⟩ (fun r h2 hq hf => ?_) (fun E h2 hq hf => ?_)
  · obtain ⟨e1, rfl, A2, w2⟩ := hq
    have ho2 : h2 out = some (3, oOut g) := hf.1 _ _ _ hout (by decide)
    have ez2 := ez.fr hf (by decide)
    refine aw_if_eq (n2 := 14) X dL_tap_7 rfl rfl (fun c7 => ?_) (fun c7 => ?_)
    · refine aw_lconst X (0) dL_tap_14 (by decide) rfl ?_
      refine aw_lastO X 0 dL_tap_15 rfl (by decide) hide_o ho2 rfl (by decide) (by decide) ?_
      refine aw_goto (n := 22) X dL_tap_16 rfl ?_
      refine aw_iconst X (0) dL_tap_22 (by decide) rfl ?_
      exact aw_iret X hret rfl dL_tap_23 (PoW.yes e1 (if_pos c7).symm w2 ez2 ho2)
    · refine aw_lconst X (1) dL_tap_10 (by decide) rfl ?_
      refine aw_goto (n := 15) X dL_tap_11 rfl ?_
      refine aw_lastO X 0 dL_tap_15 rfl (by decide) hide_o ho2 rfl (by decide) (by decide) ?_
      refine aw_goto (n := 22) X dL_tap_16 rfl ?_
      refine aw_iconst X (0) dL_tap_22 (by decide) rfl ?_
      exact aw_iret X hret rfl dL_tap_23 (PoW.yes e1 (if_neg c7).symm w2 ez2 ho2)
  · obtain ⟨e1, e2, e3, rfl⟩ := hq
    have hlt : (sp_tap σ x).1 - 1 < 1 := (List.getElem?_eq_some_iff.mp e3).1
    have hcs : (sp_tap σ x).1 = 1 := by omega
    have q := hcs
    rw [q] at e3
    obtain rfl : eA = E := Option.some.inj e3
    refine aw_catch X [] ⟨0, 16, 19, 13⟩ [] (hE.trans rfl) (fun z hz => absurd hz List.not_mem_nil) (by decide) (by decide) cc_L_13 (List.mem_of_getElem? (i := 430) (by decide +kernel)) rfl (fun q9 => ?_)
    refine aw_ast3 X dL_tap_19 rfl (by decide) rfl ?_
    refine aw_iconst X (1) dL_tap_20 (by decide) rfl ?_
    exact aw_iret X hret rfl dL_tap_21 (PoW.no q (by decide) e1 e2 w hout)

theorem cmhL_speak : CMH yL_speak cL_speak 7 (some .int) [(0, 14, 17, 21), (0, 14, 21, 13), (0, 14, 25, 15)] 6 := ⟨⟨List.mem_of_getElem? (i := 883) (by decide +kernel), by decide +kernel⟩, ⟨List.mem_of_getElem? (i := 53) (by decide +kernel), by decide +kernel⟩, ⟨by decide, by decide⟩, by decide +kernel, ⟨List.mem_of_getElem? (i := 882) (by decide +kernel), by decide +kernel⟩⟩
set_option maxHeartbeats 4000000 in
set_option maxRecDepth 100000 in
theorem k_L_speak {l : Launch} {s0 : State} {a0 : Array Value} {G : GG} (X : CX l s0 a0 G) (hN : NX s0) {h : AH} {ke out : Nat} {A : KA} {σ : NS} {g : Nat → Int64} (w : KelW G h 1 ke A σ) (ez : EZ G h) (hout : h out = some (3, oOut g)) (hv : IV σ) (x : Int32) (y : Int32) (z : Int32) (u : Int32) : ConO l s0 G yL_speak cL_speak 7 (some .int) [(0, 14, 17, 21), (0, 14, 21, 13), (0, 14, 25, 15)] 10 1 6 1 [.ref ke, .int x, .int y, .int z, .int u, .ref out] h (hide out h) (PoW G ke out (sp_speak σ x y z u) (sp_speak σ x y z u).2.1.toInt64) := by
  refine ConO.of X (by decide +kernel) [some (.ref ke), some (.int x), some (.int y), some (.int z), some (.int u), some (.ref out), none] rfl (Nat.le_of_ble_eq_true rfl) FrT_hide (fun p e s m below meth c X hnm hret hE => ?_)
  refine aw_ald5 X dL_speak_0 rfl ?_
  refine aw_iconst X (0) dL_speak_2 (by decide) rfl ?_
  refine aw_ald0 X dL_speak_3 rfl ?_
  refine aw_ild1 X dL_speak_4 rfl ?_
  refine aw_ild2 X dL_speak_5 rfl ?_
  refine aw_ild3 X dL_speak_6 rfl ?_
  refine aw_ild4 X dL_speak_7 rfl ?_
  refine aw_callVX X dL_speak_9 rfl (k_X6_speak X.1 (by decide) w hv.spd x y z u) cmX6_speak ml_L_59 rfl w.1 rfl rfl (Nat.le_of_ble_eq_true rfl) ⟨Nat.le_of_ble_eq_true rfl, Nat.le_of_ble_eq_true rfl⟩ (fun r h2 hq hf => ?_) (fun E h2 hq hf => ?_)
  · obtain ⟨e1, rfl, A2, w2⟩ := hq
    have ho2 : h2 out = some (3, oOut g) := hf.1 _ _ _ hout (by decide)
    have ez2 := ez.fr hf (by decide)
    refine aw_i2l X dL_speak_12 rfl ?_
    refine aw_lastO X 0 dL_speak_13 rfl (by decide) hide_o ho2 rfl (by decide) (by decide) ?_
    refine aw_goto (n := 29) X dL_speak_14 rfl ?_
    refine aw_iconst X (0) dL_speak_29 (by decide) rfl ?_
    exact aw_iret X hret rfl dL_speak_30 (PoW.yes e1 rfl w2 ez2 ho2)
  · obtain ⟨e1, e2, e3, rfl⟩ := hq
    have hlt : (sp_speak σ x y z u).1 - 1 < 3 := (List.getElem?_eq_some_iff.mp e3).1
    have hcs : (sp_speak σ x y z u).1 = 1 ∨ (sp_speak σ x y z u).1 = 2 ∨ (sp_speak σ x y z u).1 = 3 := by omega
    rcases hcs with q | q | q
    · rw [q] at e3
      obtain rfl : eI = E := Option.some.inj e3
      refine aw_catch X [] ⟨0, 14, 17, 21⟩ [⟨0, 14, 21, 13⟩, ⟨0, 14, 25, 15⟩] (hE.trans rfl) (fun z hz => absurd hz List.not_mem_nil) (by decide) (by decide) cc_L_21 (List.mem_of_getElem? (i := 618) (by decide +kernel)) rfl (fun q9 => ?_)
      refine aw_ast6 X dL_speak_17 rfl (by decide) rfl ?_
      refine aw_iconst X (1) dL_speak_19 (by decide) rfl ?_
      exact aw_iret X hret rfl dL_speak_20 (PoW.no q (by decide) e1 e2 w hout)
    · rw [q] at e3
      obtain rfl : eA = E := Option.some.inj e3
      refine aw_catch X [⟨0, 14, 17, 21⟩] ⟨0, 14, 21, 13⟩ [⟨0, 14, 25, 15⟩] (hE.trans rfl) (fun z hz => by
            rw [List.mem_singleton.mp hz]; exact ⟨by decide, eI, cc_L_21, hN.2.2.2.2.1⟩) (by decide) (by decide) cc_L_13 (List.mem_of_getElem? (i := 430) (by decide +kernel)) rfl (fun q9 => ?_)
      refine aw_ast6 X dL_speak_21 rfl (by decide) rfl ?_
      refine aw_iconst X (2) dL_speak_23 (by decide) rfl ?_
      exact aw_iret X hret rfl dL_speak_24 (PoW.no q (by decide) e1 e2 w hout)
    · rw [q] at e3
      obtain rfl : eS = E := Option.some.inj e3
      refine aw_catch X [⟨0, 14, 17, 21⟩, ⟨0, 14, 21, 13⟩] ⟨0, 14, 25, 15⟩ [] (hE.trans rfl) (fun z hz => by
            rcases List.mem_cons.mp hz with hz | hz
            · rw [hz]; exact ⟨by decide, eI, cc_L_21, hN.2.2.2.2.2⟩
            · rw [List.mem_singleton.mp hz]; exact ⟨by decide, eA, cc_L_13, hN.1⟩) (by decide) (by decide) cc_L_15 (List.mem_of_getElem? (i := 498) (by decide +kernel)) rfl (fun q9 => ?_)
      refine aw_ast6 X dL_speak_25 rfl (by decide) rfl ?_
      refine aw_iconst X (3) dL_speak_27 (by decide) rfl ?_
      exact aw_iret X hret rfl dL_speak_28 (PoW.no q (by decide) e1 e2 w hout)

theorem cmhL_joke : CMH yL_joke cL_joke 4 (some .int) [(0, 9, 12, 13)] 3 := ⟨⟨List.mem_of_getElem? (i := 915) (by decide +kernel), by decide +kernel⟩, ⟨List.mem_of_getElem? (i := 53) (by decide +kernel), by decide +kernel⟩, ⟨by decide, by decide⟩, by decide +kernel, ⟨List.mem_of_getElem? (i := 914) (by decide +kernel), by decide +kernel⟩⟩
set_option maxHeartbeats 4000000 in
set_option maxRecDepth 100000 in
theorem k_L_joke {l : Launch} {s0 : State} {a0 : Array Value} {G : GG} (X : CX l s0 a0 G) (hN : NX s0) {h : AH} {ke out : Nat} {A : KA} {σ : NS} {g : Nat → Int64} (w : KelW G h 1 ke A σ) (ez : EZ G h) (hout : h out = some (3, oOut g)) (x : Int32) : ConO l s0 G yL_joke cL_joke 4 (some .int) [(0, 9, 12, 13)] 10 1 6 1 [.ref ke, .int x, .ref out] h (hide out h) (PoW G ke out (sp_joke σ x) (sp_joke σ x).2.1.toInt64) := by
  refine ConO.of X (by decide +kernel) [some (.ref ke), some (.int x), some (.ref out), none] rfl (Nat.le_of_ble_eq_true rfl) FrT_hide (fun p e s m below meth c X hnm hret hE => ?_)
  refine aw_ald2 X dL_joke_0 rfl ?_
  refine aw_iconst X (0) dL_joke_1 (by decide) rfl ?_
  refine aw_ald0 X dL_joke_2 rfl ?_
  refine aw_ild1 X dL_joke_3 rfl ?_
  refine aw_callVX X dL_joke_4 rfl (k_X6_joke X.1 (by decide) w x) cmX6_joke ml_L_63 rfl w.1 rfl rfl (Nat.le_of_ble_eq_true rfl) ⟨Nat.le_of_ble_eq_true rfl, Nat.le_of_ble_eq_true rfl⟩ (fun r h2 hq hf => ?_) (fun E h2 hq hf => ?_)
  · obtain ⟨e1, rfl, A2, w2⟩ := hq
    have ho2 : h2 out = some (3, oOut g) := hf.1 _ _ _ hout (by decide)
    have ez2 := ez.fr hf (by decide)
    refine aw_i2l X dL_joke_7 rfl ?_
    refine aw_lastO X 0 dL_joke_8 rfl (by decide) hide_o ho2 rfl (by decide) (by decide) ?_
    refine aw_goto (n := 15) X dL_joke_9 rfl ?_
    refine aw_iconst X (0) dL_joke_15 (by decide) rfl ?_
    exact aw_iret X hret rfl dL_joke_16 (PoW.yes e1 rfl w2 ez2 ho2)
  · obtain ⟨e1, e2, e3, rfl⟩ := hq
    have hlt : (sp_joke σ x).1 - 1 < 1 := (List.getElem?_eq_some_iff.mp e3).1
    have hcs : (sp_joke σ x).1 = 1 := by omega
    have q := hcs
    rw [q] at e3
    obtain rfl : eA = E := Option.some.inj e3
    refine aw_catch X [] ⟨0, 9, 12, 13⟩ [] (hE.trans rfl) (fun z hz => absurd hz List.not_mem_nil) (by decide) (by decide) cc_L_13 (List.mem_of_getElem? (i := 430) (by decide +kernel)) rfl (fun q9 => ?_)
    refine aw_ast3 X dL_joke_12 rfl (by decide) rfl ?_
    refine aw_iconst X (1) dL_joke_13 (by decide) rfl ?_
    exact aw_iret X hret rfl dL_joke_14 (PoW.no q (by decide) e1 e2 w hout)

theorem cmhL_offer : CMH yL_offer cL_offer 3 (some .int) [(0, 8, 11, 15)] 2 := ⟨⟨List.mem_of_getElem? (i := 923) (by decide +kernel), by decide +kernel⟩, ⟨List.mem_of_getElem? (i := 53) (by decide +kernel), by decide +kernel⟩, ⟨by decide, by decide⟩, by decide +kernel, ⟨List.mem_of_getElem? (i := 922) (by decide +kernel), by decide +kernel⟩⟩
set_option maxHeartbeats 4000000 in
set_option maxRecDepth 100000 in
theorem k_L_offer {l : Launch} {s0 : State} {a0 : Array Value} {G : GG} (X : CX l s0 a0 G) (hN : NX s0) {h : AH} {ke out : Nat} {A : KA} {σ : NS} {g : Nat → Int64} (w : KelW G h 1 ke A σ) (ez : EZ G h) (hout : h out = some (3, oOut g)) (hv : IV σ) : ConO l s0 G yL_offer cL_offer 3 (some .int) [(0, 8, 11, 15)] 10 1 6 1 [.ref ke, .ref out] h (hide out h) (PoW G ke out (sp_offer σ) (sp_offer σ).2.1.toInt64) := by
  refine ConO.of X (by decide +kernel) [some (.ref ke), some (.ref out), none] rfl (Nat.le_of_ble_eq_true rfl) FrT_hide (fun p e s m below meth c X hnm hret hE => ?_)
  refine aw_ald1 X dL_offer_0 rfl ?_
  refine aw_iconst X (0) dL_offer_1 (by decide) rfl ?_
  refine aw_ald0 X dL_offer_2 rfl ?_
  refine aw_callVX X dL_offer_3 rfl (k_X6_offer X.1 (by decide) w hv.spd) cmX6_offer ml_L_66 rfl w.1 rfl rfl (Nat.le_of_ble_eq_true rfl) ⟨Nat.le_of_ble_eq_true rfl, Nat.le_of_ble_eq_true rfl⟩ (fun r h2 hq hf => ?_) (fun E h2 hq hf => ?_)
  · obtain ⟨e1, rfl, A2, w2⟩ := hq
    have ho2 : h2 out = some (3, oOut g) := hf.1 _ _ _ hout (by decide)
    have ez2 := ez.fr hf (by decide)
    refine aw_i2l X dL_offer_6 rfl ?_
    refine aw_lastO X 0 dL_offer_7 rfl (by decide) hide_o ho2 rfl (by decide) (by decide) ?_
    refine aw_goto (n := 14) X dL_offer_8 rfl ?_
    refine aw_iconst X (0) dL_offer_14 (by decide) rfl ?_
    exact aw_iret X hret rfl dL_offer_15 (PoW.yes e1 rfl w2 ez2 ho2)
  · obtain ⟨e1, e2, e3, rfl⟩ := hq
    have hlt : (sp_offer σ).1 - 1 < 1 := (List.getElem?_eq_some_iff.mp e3).1
    have hcs : (sp_offer σ).1 = 1 := by omega
    have q := hcs
    rw [q] at e3
    obtain rfl : eS = E := Option.some.inj e3
    refine aw_catch X [] ⟨0, 8, 11, 15⟩ [] (hE.trans rfl) (fun z hz => absurd hz List.not_mem_nil) (by decide) (by decide) cc_L_15 (List.mem_of_getElem? (i := 498) (by decide +kernel)) rfl (fun q9 => ?_)
    refine aw_ast2 X dL_offer_11 rfl (by decide) rfl ?_
    refine aw_iconst X (1) dL_offer_12 (by decide) rfl ?_
    exact aw_iret X hret rfl dL_offer_13 (PoW.no q (by decide) e1 e2 w hout)

theorem cmhL_pass : CMH yL_pass cL_pass 4 (some .int) [(0, 9, 12, 13), (0, 9, 15, 15)] 3 := ⟨⟨List.mem_of_getElem? (i := 931) (by decide +kernel), by decide +kernel⟩, ⟨List.mem_of_getElem? (i := 53) (by decide +kernel), by decide +kernel⟩, ⟨by decide, by decide⟩, by decide +kernel, ⟨List.mem_of_getElem? (i := 930) (by decide +kernel), by decide +kernel⟩⟩
set_option maxHeartbeats 4000000 in
set_option maxRecDepth 100000 in
theorem k_L_pass {l : Launch} {s0 : State} {a0 : Array Value} {G : GG} (X : CX l s0 a0 G) (hN : NX s0) {h : AH} {ke out : Nat} {A : KA} {σ : NS} {g : Nat → Int64} (w : KelW G h 1 ke A σ) (ez : EZ G h) (hout : h out = some (3, oOut g)) (hv : IV σ) (x : Int32) : ConO l s0 G yL_pass cL_pass 4 (some .int) [(0, 9, 12, 13), (0, 9, 15, 15)] 10 1 6 1 [.ref ke, .int x, .ref out] h (hide out h) (PoW G ke out (sp_pass σ x) (sp_pass σ x).2.1.toInt64) := by
  refine ConO.of X (by decide +kernel) [some (.ref ke), some (.int x), some (.ref out), none] rfl (Nat.le_of_ble_eq_true rfl) FrT_hide (fun p e s m below meth c X hnm hret hE => ?_)
  refine aw_ald2 X dL_pass_0 rfl ?_
  refine aw_iconst X (0) dL_pass_1 (by decide) rfl ?_
  refine aw_ald0 X dL_pass_2 rfl ?_
  refine aw_ild1 X dL_pass_3 rfl ?_
  refine aw_callVX X dL_pass_4 rfl (k_X6_pass X.1 (by decide) w hv.spd x) cmX6_pass ml_L_70 rfl w.1 rfl rfl (Nat.le_of_ble_eq_true rfl) ⟨Nat.le_of_ble_eq_true rfl, Nat.le_of_ble_eq_true rfl⟩ (fun r h2 hq hf => ?_) (fun E h2 hq hf => ?_)
  · obtain ⟨e1, rfl, A2, w2⟩ := hq
    have ho2 : h2 out = some (3, oOut g) := hf.1 _ _ _ hout (by decide)
    have ez2 := ez.fr hf (by decide)
    refine aw_i2l X dL_pass_7 rfl ?_
    refine aw_lastO X 0 dL_pass_8 rfl (by decide) hide_o ho2 rfl (by decide) (by decide) ?_
    refine aw_goto (n := 18) X dL_pass_9 rfl ?_
    refine aw_iconst X (0) dL_pass_18 (by decide) rfl ?_
    exact aw_iret X hret rfl dL_pass_19 (PoW.yes e1 rfl w2 ez2 ho2)
  · obtain ⟨e1, e2, e3, rfl⟩ := hq
    have hlt : (sp_pass σ x).1 - 1 < 2 := (List.getElem?_eq_some_iff.mp e3).1
    have hcs : (sp_pass σ x).1 = 1 ∨ (sp_pass σ x).1 = 2 := by omega
    rcases hcs with q | q
    · rw [q] at e3
      obtain rfl : eA = E := Option.some.inj e3
      refine aw_catch X [] ⟨0, 9, 12, 13⟩ [⟨0, 9, 15, 15⟩] (hE.trans rfl) (fun z hz => absurd hz List.not_mem_nil) (by decide) (by decide) cc_L_13 (List.mem_of_getElem? (i := 430) (by decide +kernel)) rfl (fun q9 => ?_)
      refine aw_ast3 X dL_pass_12 rfl (by decide) rfl ?_
      refine aw_iconst X (1) dL_pass_13 (by decide) rfl ?_
      exact aw_iret X hret rfl dL_pass_14 (PoW.no q (by decide) e1 e2 w hout)
    · rw [q] at e3
      obtain rfl : eS = E := Option.some.inj e3
      refine aw_catch X [⟨0, 9, 12, 13⟩] ⟨0, 9, 15, 15⟩ [] (hE.trans rfl) (fun z hz => by
            rw [List.mem_singleton.mp hz]; exact ⟨by decide, eA, cc_L_13, hN.1⟩) (by decide) (by decide) cc_L_15 (List.mem_of_getElem? (i := 498) (by decide +kernel)) rfl (fun q9 => ?_)
      refine aw_ast3 X dL_pass_15 rfl (by decide) rfl ?_
      refine aw_iconst X (2) dL_pass_16 (by decide) rfl ?_
      exact aw_iret X hret rfl dL_pass_17 (PoW.no q (by decide) e1 e2 w hout)

theorem cmhL_knows : CMH yL_knows cL_knows 5 (some .int) [(0, 17, 20, 21)] 4 := ⟨⟨List.mem_of_getElem? (i := 939) (by decide +kernel), by decide +kernel⟩, ⟨List.mem_of_getElem? (i := 53) (by decide +kernel), by decide +kernel⟩, ⟨by decide, by decide⟩, by decide +kernel, ⟨List.mem_of_getElem? (i := 938) (by decide +kernel), by decide +kernel⟩⟩
set_option maxHeartbeats 4000000 in
set_option maxRecDepth 100000 in
theorem k_L_knows {l : Launch} {s0 : State} {a0 : Array Value} {G : GG} (X : CX l s0 a0 G) (hN : NX s0) {h : AH} {ke out : Nat} {A : KA} {σ : NS} {g : Nat → Int64} (w : KelW G h 1 ke A σ) (ez : EZ G h) (hout : h out = some (3, oOut g)) (x : Int32) (y : Int32) : ConO l s0 G yL_knows cL_knows 5 (some .int) [(0, 17, 20, 21)] 10 1 6 1 [.ref ke, .int x, .int y, .ref out] h (hide out h) (PoW G ke out (sp_knows σ x y) (if (sp_knows σ x y).2.1 = 0 then (0 : Int64) else 1)) := by
  refine ConO.of X (by decide +kernel) [some (.ref ke), some (.int x), some (.int y), some (.ref out), none] rfl (Nat.le_of_ble_eq_true rfl) FrT_hide (fun p e s m below meth c X hnm hret hE => ?_)
  refine aw_ald3 X dL_knows_0 rfl ?_
  refine aw_iconst X (0) dL_knows_1 (by decide) rfl ?_
  refine aw_ald0 X dL_knows_2 rfl ?_
  refine aw_ild1 X dL_knows_3 rfl ?_
  refine aw_ild2 X dL_knows_4 rfl ?_
  refine aw_callVX X dL_knows_5 rfl (k_X6_knows X.1 w x y) cmX6_knows ml_L_73 rfl w.1 rfl rfl (Nat.le_of_ble_eq_true rfl) ⟨Nat.le_of_ble_eq_true rfl, Nat.le_of_ble_eq_true rfl⟩ (fun r h2 hq hf => ?_) (fun E h2 hq hf => ?_)
  · obtain ⟨e1, rfl, A2, w2⟩ := hq
    have ho2 : h2 out = some (3, oOut g) := hf.1 _ _ _ hout (by decide)
    have ez2 := ez.fr hf (by decide)
    refine aw_if_eq (n2 := 15) X dL_knows_8 rfl rfl (fun c7 => ?_) (fun c7 => ?_)
    · refine aw_lconst X (0) dL_knows_15 (by decide) rfl ?_
      refine aw_lastO X 0 dL_knows_16 rfl (by decide) hide_o ho2 rfl (by decide) (by decide) ?_
      refine aw_goto (n := 24) X dL_knows_17 rfl ?_
      refine aw_iconst X (0) dL_knows_24 (by decide) rfl ?_
      exact aw_iret X hret rfl dL_knows_25 (PoW.yes e1 (if_pos c7).symm w2 ez2 ho2)
    · refine aw_lconst X (1) dL_knows_11 (by decide) rfl ?_
      refine aw_goto (n := 16) X dL_knows_12 rfl ?_
      refine aw_lastO X 0 dL_knows_16 rfl (by decide) hide_o ho2 rfl (by decide) (by decide) ?_
      refine aw_goto (n := 24) X dL_knows_17 rfl ?_
      refine aw_iconst X (0) dL_knows_24 (by decide) rfl ?_
      exact aw_iret X hret rfl dL_knows_25 (PoW.yes e1 (if_neg c7).symm w2 ez2 ho2)
  · obtain ⟨e1, e2, e3, rfl⟩ := hq
    have hlt : (sp_knows σ x y).1 - 1 < 1 := (List.getElem?_eq_some_iff.mp e3).1
    have hcs : (sp_knows σ x y).1 = 1 := by omega
    have q := hcs
    rw [q] at e3
    obtain rfl : eI = E := Option.some.inj e3
    refine aw_catch X [] ⟨0, 17, 20, 21⟩ [] (hE.trans rfl) (fun z hz => absurd hz List.not_mem_nil) (by decide) (by decide) cc_L_21 (List.mem_of_getElem? (i := 618) (by decide +kernel)) rfl (fun q9 => ?_)
    refine aw_ast4 X dL_knows_20 rfl (by decide) rfl ?_
    refine aw_iconst X (1) dL_knows_22 (by decide) rfl ?_
    exact aw_iret X hret rfl dL_knows_23 (PoW.no q (by decide) e1 e2 w hout)

theorem cmhL_ofFigure : CMH yL_ofFigure cL_ofFigure 5 (some .int) [(0, 10, 13, 21), (0, 10, 17, 13)] 4 := ⟨⟨List.mem_of_getElem? (i := 947) (by decide +kernel), by decide +kernel⟩, ⟨List.mem_of_getElem? (i := 53) (by decide +kernel), by decide +kernel⟩, ⟨by decide, by decide⟩, by decide +kernel, ⟨List.mem_of_getElem? (i := 946) (by decide +kernel), by decide +kernel⟩⟩
set_option maxHeartbeats 4000000 in
set_option maxRecDepth 100000 in
theorem k_L_ofFigure {l : Launch} {s0 : State} {a0 : Array Value} {G : GG} (X : CX l s0 a0 G) (hN : NX s0) {h : AH} {ke out : Nat} {A : KA} {σ : NS} {g : Nat → Int64} (w : KelW G h 1 ke A σ) (ez : EZ G h) (hout : h out = some (3, oOut g)) (x : Int32) (y : Int32) : ConO l s0 G yL_ofFigure cL_ofFigure 5 (some .int) [(0, 10, 13, 21), (0, 10, 17, 13)] 10 1 6 1 [.ref ke, .int x, .int y, .ref out] h (hide out h) (PoW G ke out (sp_ofFigure σ x y) (sp_ofFigure σ x y).2.1.toInt64) := by
  refine ConO.of X (by decide +kernel) [some (.ref ke), some (.int x), some (.int y), some (.ref out), none] rfl (Nat.le_of_ble_eq_true rfl) FrT_hide (fun p e s m below meth c X hnm hret hE => ?_)
  refine aw_ald3 X dL_ofFigure_0 rfl ?_
  refine aw_iconst X (0) dL_ofFigure_1 (by decide) rfl ?_
  refine aw_ald0 X dL_ofFigure_2 rfl ?_
  refine aw_ild1 X dL_ofFigure_3 rfl ?_
  refine aw_ild2 X dL_ofFigure_4 rfl ?_
  refine aw_callVX X dL_ofFigure_5 rfl (k_X6_ofFigure X.1 w x y) cmX6_ofFigure ml_L_77 rfl w.1 rfl rfl (Nat.le_of_ble_eq_true rfl) ⟨Nat.le_of_ble_eq_true rfl, Nat.le_of_ble_eq_true rfl⟩ (fun r h2 hq hf => ?_) (fun E h2 hq hf => ?_)
  · obtain ⟨e1, rfl, A2, w2⟩ := hq
    have ho2 : h2 out = some (3, oOut g) := hf.1 _ _ _ hout (by decide)
    have ez2 := ez.fr hf (by decide)
    refine aw_i2l X dL_ofFigure_8 rfl ?_
    refine aw_lastO X 0 dL_ofFigure_9 rfl (by decide) hide_o ho2 rfl (by decide) (by decide) ?_
    refine aw_goto (n := 21) X dL_ofFigure_10 rfl ?_
    refine aw_iconst X (0) dL_ofFigure_21 (by decide) rfl ?_
    exact aw_iret X hret rfl dL_ofFigure_22 (PoW.yes e1 rfl w2 ez2 ho2)
  · obtain ⟨e1, e2, e3, rfl⟩ := hq
    have hlt : (sp_ofFigure σ x y).1 - 1 < 2 := (List.getElem?_eq_some_iff.mp e3).1
    have hcs : (sp_ofFigure σ x y).1 = 1 ∨ (sp_ofFigure σ x y).1 = 2 := by omega
    rcases hcs with q | q
    · rw [q] at e3
      obtain rfl : eI = E := Option.some.inj e3
      refine aw_catch X [] ⟨0, 10, 13, 21⟩ [⟨0, 10, 17, 13⟩] (hE.trans rfl) (fun z hz => absurd hz List.not_mem_nil) (by decide) (by decide) cc_L_21 (List.mem_of_getElem? (i := 618) (by decide +kernel)) rfl (fun q9 => ?_)
      refine aw_ast4 X dL_ofFigure_13 rfl (by decide) rfl ?_
      refine aw_iconst X (1) dL_ofFigure_15 (by decide) rfl ?_
      exact aw_iret X hret rfl dL_ofFigure_16 (PoW.no q (by decide) e1 e2 w hout)
    · rw [q] at e3
      obtain rfl : eA = E := Option.some.inj e3
      refine aw_catch X [⟨0, 10, 13, 21⟩] ⟨0, 10, 17, 13⟩ [] (hE.trans rfl) (fun z hz => by
            rw [List.mem_singleton.mp hz]; exact ⟨by decide, eI, cc_L_21, hN.2.2.2.2.1⟩) (by decide) (by decide) cc_L_13 (List.mem_of_getElem? (i := 430) (by decide +kernel)) rfl (fun q9 => ?_)
      refine aw_ast4 X dL_ofFigure_17 rfl (by decide) rfl ?_
      refine aw_iconst X (2) dL_ofFigure_19 (by decide) rfl ?_
      exact aw_iret X hret rfl dL_ofFigure_20 (PoW.no q (by decide) e1 e2 w hout)

theorem cmhL_ofScene : CMH yL_ofScene cL_ofScene 5 (some .int) [(0, 10, 13, 21), (0, 10, 17, 13)] 4 := ⟨⟨List.mem_of_getElem? (i := 955) (by decide +kernel), by decide +kernel⟩, ⟨List.mem_of_getElem? (i := 53) (by decide +kernel), by decide +kernel⟩, ⟨by decide, by decide⟩, by decide +kernel, ⟨List.mem_of_getElem? (i := 954) (by decide +kernel), by decide +kernel⟩⟩
set_option maxHeartbeats 4000000 in
set_option maxRecDepth 100000 in
theorem k_L_ofScene {l : Launch} {s0 : State} {a0 : Array Value} {G : GG} (X : CX l s0 a0 G) (hN : NX s0) {h : AH} {ke out : Nat} {A : KA} {σ : NS} {g : Nat → Int64} (w : KelW G h 1 ke A σ) (ez : EZ G h) (hout : h out = some (3, oOut g)) (x : Int32) (y : Int32) : ConO l s0 G yL_ofScene cL_ofScene 5 (some .int) [(0, 10, 13, 21), (0, 10, 17, 13)] 10 1 6 1 [.ref ke, .int x, .int y, .ref out] h (hide out h) (PoW G ke out (sp_ofScene σ x y) (sp_ofScene σ x y).2.1.toInt64) := by
  refine ConO.of X (by decide +kernel) [some (.ref ke), some (.int x), some (.int y), some (.ref out), none] rfl (Nat.le_of_ble_eq_true rfl) FrT_hide (fun p e s m below meth c X hnm hret hE => ?_)
  refine aw_ald3 X dL_ofScene_0 rfl ?_
  refine aw_iconst X (0) dL_ofScene_1 (by decide) rfl ?_
  refine aw_ald0 X dL_ofScene_2 rfl ?_
  refine aw_ild1 X dL_ofScene_3 rfl ?_
  refine aw_ild2 X dL_ofScene_4 rfl ?_
  refine aw_callVX X dL_ofScene_5 rfl (k_X6_ofScene X.1 w x y) cmX6_ofScene ml_L_80 rfl w.1 rfl rfl (Nat.le_of_ble_eq_true rfl) ⟨Nat.le_of_ble_eq_true rfl, Nat.le_of_ble_eq_true rfl⟩ (fun r h2 hq hf => ?_) (fun E h2 hq hf => ?_)
  · obtain ⟨e1, rfl, A2, w2⟩ := hq
    have ho2 : h2 out = some (3, oOut g) := hf.1 _ _ _ hout (by decide)
    have ez2 := ez.fr hf (by decide)
    refine aw_i2l X dL_ofScene_8 rfl ?_
    refine aw_lastO X 0 dL_ofScene_9 rfl (by decide) hide_o ho2 rfl (by decide) (by decide) ?_
    refine aw_goto (n := 21) X dL_ofScene_10 rfl ?_
    refine aw_iconst X (0) dL_ofScene_21 (by decide) rfl ?_
    exact aw_iret X hret rfl dL_ofScene_22 (PoW.yes e1 rfl w2 ez2 ho2)
  · obtain ⟨e1, e2, e3, rfl⟩ := hq
    have hlt : (sp_ofScene σ x y).1 - 1 < 2 := (List.getElem?_eq_some_iff.mp e3).1
    have hcs : (sp_ofScene σ x y).1 = 1 ∨ (sp_ofScene σ x y).1 = 2 := by omega
    rcases hcs with q | q
    · rw [q] at e3
      obtain rfl : eI = E := Option.some.inj e3
      refine aw_catch X [] ⟨0, 10, 13, 21⟩ [⟨0, 10, 17, 13⟩] (hE.trans rfl) (fun z hz => absurd hz List.not_mem_nil) (by decide) (by decide) cc_L_21 (List.mem_of_getElem? (i := 618) (by decide +kernel)) rfl (fun q9 => ?_)
      refine aw_ast4 X dL_ofScene_13 rfl (by decide) rfl ?_
      refine aw_iconst X (1) dL_ofScene_15 (by decide) rfl ?_
      exact aw_iret X hret rfl dL_ofScene_16 (PoW.no q (by decide) e1 e2 w hout)
    · rw [q] at e3
      obtain rfl : eA = E := Option.some.inj e3
      refine aw_catch X [⟨0, 10, 13, 21⟩] ⟨0, 10, 17, 13⟩ [] (hE.trans rfl) (fun z hz => by
            rw [List.mem_singleton.mp hz]; exact ⟨by decide, eI, cc_L_21, hN.2.2.2.2.1⟩) (by decide) (by decide) cc_L_13 (List.mem_of_getElem? (i := 430) (by decide +kernel)) rfl (fun q9 => ?_)
      refine aw_ast4 X dL_ofScene_17 rfl (by decide) rfl ?_
      refine aw_iconst X (2) dL_ofScene_19 (by decide) rfl ?_
      exact aw_iret X hret rfl dL_ofScene_20 (PoW.no q (by decide) e1 e2 w hout)

theorem cmhL_at : CMH yL_at cL_at 4 (some .int) [(0, 9, 12, 21)] 3 := ⟨⟨List.mem_of_getElem? (i := 963) (by decide +kernel), by decide +kernel⟩, ⟨List.mem_of_getElem? (i := 53) (by decide +kernel), by decide +kernel⟩, ⟨by decide, by decide⟩, by decide +kernel, ⟨List.mem_of_getElem? (i := 962) (by decide +kernel), by decide +kernel⟩⟩
set_option maxHeartbeats 4000000 in
set_option maxRecDepth 100000 in
theorem k_L_at {l : Launch} {s0 : State} {a0 : Array Value} {G : GG} (X : CX l s0 a0 G) (hN : NX s0) {h : AH} {ke out : Nat} {A : KA} {σ : NS} {g : Nat → Int64} (w : KelW G h 1 ke A σ) (ez : EZ G h) (hout : h out = some (3, oOut g)) (x : Int32) : ConO l s0 G yL_at cL_at 4 (some .int) [(0, 9, 12, 21)] 10 1 6 1 [.ref ke, .int x, .ref out] h (hide out h) (PoW G ke out (sp_at σ x) (sp_at σ x).2.1.toInt64) := by
  refine ConO.of X (by decide +kernel) [some (.ref ke), some (.int x), some (.ref out), none] rfl (Nat.le_of_ble_eq_true rfl) FrT_hide (fun p e s m below meth c X hnm hret hE => ?_)
  refine aw_ald2 X dL_at_0 rfl ?_
  refine aw_iconst X (0) dL_at_1 (by decide) rfl ?_
  refine aw_ald0 X dL_at_2 rfl ?_
  refine aw_ild1 X dL_at_3 rfl ?_
  refine aw_callVX X dL_at_4 rfl (k_X6_at X.1 w x) cmX6_at ml_L_83 rfl w.1 rfl rfl (Nat.le_of_ble_eq_true rfl) ⟨Nat.le_of_ble_eq_true rfl, Nat.le_of_ble_eq_true rfl⟩ (fun r h2 hq hf => ?_) (fun E h2 hq hf => ?_)
  · obtain ⟨e1, rfl, A2, w2⟩ := hq
    have ho2 : h2 out = some (3, oOut g) := hf.1 _ _ _ hout (by decide)
    have ez2 := ez.fr hf (by decide)
    refine aw_i2l X dL_at_7 rfl ?_
    refine aw_lastO X 0 dL_at_8 rfl (by decide) hide_o ho2 rfl (by decide) (by decide) ?_
    refine aw_goto (n := 15) X dL_at_9 rfl ?_
    refine aw_iconst X (0) dL_at_15 (by decide) rfl ?_
    exact aw_iret X hret rfl dL_at_16 (PoW.yes e1 rfl w2 ez2 ho2)
  · obtain ⟨e1, e2, e3, rfl⟩ := hq
    have hlt : (sp_at σ x).1 - 1 < 1 := (List.getElem?_eq_some_iff.mp e3).1
    have hcs : (sp_at σ x).1 = 1 := by omega
    have q := hcs
    rw [q] at e3
    obtain rfl : eI = E := Option.some.inj e3
    refine aw_catch X [] ⟨0, 9, 12, 21⟩ [] (hE.trans rfl) (fun z hz => absurd hz List.not_mem_nil) (by decide) (by decide) cc_L_21 (List.mem_of_getElem? (i := 618) (by decide +kernel)) rfl (fun q9 => ?_)
    refine aw_ast3 X dL_at_12 rfl (by decide) rfl ?_
    refine aw_iconst X (1) dL_at_13 (by decide) rfl ?_
    exact aw_iret X hret rfl dL_at_14 (PoW.no q (by decide) e1 e2 w hout)

theorem cmhL_sound : CMH yL_sound cL_sound 4 (some .int) [(0, 9, 12, 13)] 3 := ⟨⟨List.mem_of_getElem? (i := 970) (by decide +kernel), by decide +kernel⟩, ⟨List.mem_of_getElem? (i := 53) (by decide +kernel), by decide +kernel⟩, ⟨by decide, by decide⟩, by decide +kernel, ⟨List.mem_of_getElem? (i := 969) (by decide +kernel), by decide +kernel⟩⟩
set_option maxHeartbeats 4000000 in
set_option maxRecDepth 100000 in
theorem k_L_sound {l : Launch} {s0 : State} {a0 : Array Value} {G : GG} (X : CX l s0 a0 G) (hN : NX s0) {h : AH} {ke out : Nat} {A : KA} {σ : NS} {g : Nat → Int64} (w : KelW G h 1 ke A σ) (ez : EZ G h) (hout : h out = some (3, oOut g)) (x : Int32) : ConO l s0 G yL_sound cL_sound 4 (some .int) [(0, 9, 12, 13)] 10 1 6 1 [.ref ke, .int x, .ref out] h (hide out h) (PoW G ke out (sp_sound σ x) (sp_sound σ x).2.1.toInt64) := by
  refine ConO.of X (by decide +kernel) [some (.ref ke), some (.int x), some (.ref out), none] rfl (Nat.le_of_ble_eq_true rfl) FrT_hide (fun p e s m below meth c X hnm hret hE => ?_)
  refine aw_ald2 X dL_sound_0 rfl ?_
  refine aw_iconst X (0) dL_sound_1 (by decide) rfl ?_
  refine aw_ald0 X dL_sound_2 rfl ?_
  refine aw_ild1 X dL_sound_3 rfl ?_
  refine aw_callVX X dL_sound_4 rfl (k_X6_sound X.1 w x) cmX6_sound ml_L_86 rfl w.1 rfl rfl (Nat.le_of_ble_eq_true rfl) ⟨Nat.le_of_ble_eq_true rfl, Nat.le_of_ble_eq_true rfl⟩ (fun r h2 hq hf => ?_) (fun E h2 hq hf => ?_)
  · obtain ⟨e1, rfl, A2, w2⟩ := hq
    have ho2 : h2 out = some (3, oOut g) := hf.1 _ _ _ hout (by decide)
    have ez2 := ez.fr hf (by decide)
    refine aw_i2l X dL_sound_7 rfl ?_
    refine aw_lastO X 0 dL_sound_8 rfl (by decide) hide_o ho2 rfl (by decide) (by decide) ?_
    refine aw_goto (n := 15) X dL_sound_9 rfl ?_
    refine aw_iconst X (0) dL_sound_15 (by decide) rfl ?_
    exact aw_iret X hret rfl dL_sound_16 (PoW.yes e1 rfl w2 ez2 ho2)
  · obtain ⟨e1, e2, e3, rfl⟩ := hq
    have hlt : (sp_sound σ x).1 - 1 < 1 := (List.getElem?_eq_some_iff.mp e3).1
    have hcs : (sp_sound σ x).1 = 1 := by omega
    have q := hcs
    rw [q] at e3
    obtain rfl : eA = E := Option.some.inj e3
    refine aw_catch X [] ⟨0, 9, 12, 13⟩ [] (hE.trans rfl) (fun z hz => absurd hz List.not_mem_nil) (by decide) (by decide) cc_L_13 (List.mem_of_getElem? (i := 430) (by decide +kernel)) rfl (fun q9 => ?_)
    refine aw_ast3 X dL_sound_12 rfl (by decide) rfl ?_
    refine aw_iconst X (1) dL_sound_13 (by decide) rfl ?_
    exact aw_iret X hret rfl dL_sound_14 (PoW.no q (by decide) e1 e2 w hout)

theorem cmhL_many : CMH yL_many cL_many 4 (some .int) [(0, 9, 12, 13)] 3 := ⟨⟨List.mem_of_getElem? (i := 978) (by decide +kernel), by decide +kernel⟩, ⟨List.mem_of_getElem? (i := 53) (by decide +kernel), by decide +kernel⟩, ⟨by decide, by decide⟩, by decide +kernel, ⟨List.mem_of_getElem? (i := 977) (by decide +kernel), by decide +kernel⟩⟩
set_option maxHeartbeats 4000000 in
set_option maxRecDepth 100000 in
theorem k_L_many {l : Launch} {s0 : State} {a0 : Array Value} {G : GG} (X : CX l s0 a0 G) (hN : NX s0) {h : AH} {ke out : Nat} {A : KA} {σ : NS} {g : Nat → Int64} (w : KelW G h 1 ke A σ) (ez : EZ G h) (hout : h out = some (3, oOut g)) (x : Int32) : ConO l s0 G yL_many cL_many 4 (some .int) [(0, 9, 12, 13)] 10 1 6 1 [.ref ke, .int x, .ref out] h (hide out h) (PoW G ke out (sp_many σ x) (sp_many σ x).2.1.toInt64) := by
  refine ConO.of X (by decide +kernel) [some (.ref ke), some (.int x), some (.ref out), none] rfl (Nat.le_of_ble_eq_true rfl) FrT_hide (fun p e s m below meth c X hnm hret hE => ?_)
  refine aw_ald2 X dL_many_0 rfl ?_
  refine aw_iconst X (0) dL_many_1 (by decide) rfl ?_
  refine aw_ald0 X dL_many_2 rfl ?_
  refine aw_ild1 X dL_many_3 rfl ?_
  refine aw_callVX X dL_many_4 rfl (k_X6_many X.1 w x) cmX6_many ml_L_89 rfl w.1 rfl rfl (Nat.le_of_ble_eq_true rfl) ⟨Nat.le_of_ble_eq_true rfl, Nat.le_of_ble_eq_true rfl⟩ (fun r h2 hq hf => ?_) (fun E h2 hq hf => ?_)
  · obtain ⟨e1, rfl, A2, w2⟩ := hq
    have ho2 : h2 out = some (3, oOut g) := hf.1 _ _ _ hout (by decide)
    have ez2 := ez.fr hf (by decide)
    refine aw_i2l X dL_many_7 rfl ?_
    refine aw_lastO X 0 dL_many_8 rfl (by decide) hide_o ho2 rfl (by decide) (by decide) ?_
    refine aw_goto (n := 15) X dL_many_9 rfl ?_
    refine aw_iconst X (0) dL_many_15 (by decide) rfl ?_
    exact aw_iret X hret rfl dL_many_16 (PoW.yes e1 rfl w2 ez2 ho2)
  · obtain ⟨e1, e2, e3, rfl⟩ := hq
    have hlt : (sp_many σ x).1 - 1 < 1 := (List.getElem?_eq_some_iff.mp e3).1
    have hcs : (sp_many σ x).1 = 1 := by omega
    have q := hcs
    rw [q] at e3
    obtain rfl : eA = E := Option.some.inj e3
    refine aw_catch X [] ⟨0, 9, 12, 13⟩ [] (hE.trans rfl) (fun z hz => absurd hz List.not_mem_nil) (by decide) (by decide) cc_L_13 (List.mem_of_getElem? (i := 430) (by decide +kernel)) rfl (fun q9 => ?_)
    refine aw_ast3 X dL_many_12 rfl (by decide) rfl ?_
    refine aw_iconst X (1) dL_many_13 (by decide) rfl ?_
    exact aw_iret X hret rfl dL_many_14 (PoW.no q (by decide) e1 e2 w hout)

theorem cmhL_liftFor : CMH yL_liftFor cL_liftFor 5 (some .int) [(0, 10, 13, 21), (0, 10, 17, 13)] 4 := ⟨⟨List.mem_of_getElem? (i := 986) (by decide +kernel), by decide +kernel⟩, ⟨List.mem_of_getElem? (i := 53) (by decide +kernel), by decide +kernel⟩, ⟨by decide, by decide⟩, by decide +kernel, ⟨List.mem_of_getElem? (i := 985) (by decide +kernel), by decide +kernel⟩⟩
set_option maxHeartbeats 4000000 in
set_option maxRecDepth 100000 in
theorem k_L_liftFor {l : Launch} {s0 : State} {a0 : Array Value} {G : GG} (X : CX l s0 a0 G) (hN : NX s0) {h : AH} {ke out : Nat} {A : KA} {σ : NS} {g : Nat → Int64} (w : KelW G h 1 ke A σ) (ez : EZ G h) (hout : h out = some (3, oOut g)) (x : Int32) (y : Int32) : ConO l s0 G yL_liftFor cL_liftFor 5 (some .int) [(0, 10, 13, 21), (0, 10, 17, 13)] 10 1 6 1 [.ref ke, .int x, .int y, .ref out] h (hide out h) (PoW G ke out (sp_liftFor σ x y) (sp_liftFor σ x y).2.1.toInt64) := by
  refine ConO.of X (by decide +kernel) [some (.ref ke), some (.int x), some (.int y), some (.ref out), none] rfl (Nat.le_of_ble_eq_true rfl) FrT_hide (fun p e s m below meth c X hnm hret hE => ?_)
  refine aw_ald3 X dL_liftFor_0 rfl ?_
  refine aw_iconst X (0) dL_liftFor_1 (by decide) rfl ?_
  refine aw_ald0 X dL_liftFor_2 rfl ?_
  refine aw_ild1 X dL_liftFor_3 rfl ?_
  refine aw_ild2 X dL_liftFor_4 rfl ?_
  refine aw_callVX X dL_liftFor_5 rfl (k_X6_liftFor X.1 w x y) cmX6_liftFor ml_L_92 rfl w.1 rfl rfl (Nat.le_of_ble_eq_true rfl) ⟨Nat.le_of_ble_eq_true rfl, Nat.le_of_ble_eq_true rfl⟩ (fun r h2 hq hf => ?_) (fun E h2 hq hf => ?_)
  · obtain ⟨e1, rfl, A2, w2⟩ := hq
    have ho2 : h2 out = some (3, oOut g) := hf.1 _ _ _ hout (by decide)
    have ez2 := ez.fr hf (by decide)
    refine aw_i2l X dL_liftFor_8 rfl ?_
    refine aw_lastO X 0 dL_liftFor_9 rfl (by decide) hide_o ho2 rfl (by decide) (by decide) ?_
    refine aw_goto (n := 21) X dL_liftFor_10 rfl ?_
    refine aw_iconst X (0) dL_liftFor_21 (by decide) rfl ?_
    exact aw_iret X hret rfl dL_liftFor_22 (PoW.yes e1 rfl w2 ez2 ho2)
  · obtain ⟨e1, e2, e3, rfl⟩ := hq
    have hlt : (sp_liftFor σ x y).1 - 1 < 2 := (List.getElem?_eq_some_iff.mp e3).1
    have hcs : (sp_liftFor σ x y).1 = 1 ∨ (sp_liftFor σ x y).1 = 2 := by omega
    rcases hcs with q | q
    · rw [q] at e3
      obtain rfl : eI = E := Option.some.inj e3
      refine aw_catch X [] ⟨0, 10, 13, 21⟩ [⟨0, 10, 17, 13⟩] (hE.trans rfl) (fun z hz => absurd hz List.not_mem_nil) (by decide) (by decide) cc_L_21 (List.mem_of_getElem? (i := 618) (by decide +kernel)) rfl (fun q9 => ?_)
      refine aw_ast4 X dL_liftFor_13 rfl (by decide) rfl ?_
      refine aw_iconst X (1) dL_liftFor_15 (by decide) rfl ?_
      exact aw_iret X hret rfl dL_liftFor_16 (PoW.no q (by decide) e1 e2 w hout)
    · rw [q] at e3
      obtain rfl : eA = E := Option.some.inj e3
      refine aw_catch X [⟨0, 10, 13, 21⟩] ⟨0, 10, 17, 13⟩ [] (hE.trans rfl) (fun z hz => by
            rw [List.mem_singleton.mp hz]; exact ⟨by decide, eI, cc_L_21, hN.2.2.2.2.1⟩) (by decide) (by decide) cc_L_13 (List.mem_of_getElem? (i := 430) (by decide +kernel)) rfl (fun q9 => ?_)
      refine aw_ast4 X dL_liftFor_17 rfl (by decide) rfl ?_
      refine aw_iconst X (2) dL_liftFor_19 (by decide) rfl ?_
      exact aw_iret X hret rfl dL_liftFor_20 (PoW.no q (by decide) e1 e2 w hout)
