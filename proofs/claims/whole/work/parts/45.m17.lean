/-! A LIST'S COPY: the constructor that takes another list -/
abbrev cgC : MethodName := ⟨"java/util/Collection", "getClass", "()Ljava/lang/Class;"⟩
theorem sel_cg {A : Array Value} {U : State} {C : String} (hsel : (Cond.selects C ogC ogC).before A U = true) (hface : (Cond.interfaceMethod "java/util/Collection" "java/lang/Object" "getClass" "()Ljava/lang/Class;").before A U = true) (hdecl : (Cond.declares ogC).before A U = true) : (Cond.selects C cgC ogC).before A U = true := by
  obtain ⟨c2, r2, m2, q1, q2, q3, q4, mk, hk1, hk2⟩ := Cond.selects_spec hsel
  obtain ⟨cL, kL, r1, hcL, hkL, hiL, hf, hn⟩ := Cond.interfaceMethod_spec hface
  obtain ⟨m9, meth9, hn9, -⟩ := Cond.declares_spec hdecl
  cases (State.methodFound?_of_named hn9 (by decide)).symm.trans q2
  cases hn9.symm.trans q3
  cases hn9.symm.trans hn
  have hf' : U.methodFound? cgC.cls cgC.name cgC.desc = some r2 := hf
  change Cond.holds _ _ _ _ _ _ = true
  simp only [Cond.holds, Cond.value]
  rw [q1, hf', q3]
  simp [q4, hk1, hk2]
theorem tr_vm {c : Cond} (hc : c.onTables = true) {u U : State} (h : c.before #[] (u.setVm U.vm) = true) : c.before #[] U = true := by
  have e := Cond.onTables_vm (A := #[]) (A' := #[]) (U := u) (U' := U) U.vm c hc
  have hU : U.setVm U.vm = U := rfl
  rw [hU] at e
  rw [← e]
  exact h
theorem ifm_setVm {A : Array Value} {u : State} {vm' : Vm} (h : u.vm.Alike vm') {ref owner name desc : String} : (Cond.interfaceMethod ref owner name desc).before A (u.setVm vm') = (Cond.interfaceMethod ref owner name desc).before A u := by
  have hf : (u.setVm vm').methodFound? ref name desc = u.methodFound? ref name desc := State.methodFound?_setVm h ref name desc
  simp only [Cond.before, Cond.holds, Cond.value, State.vm_setVm, h.findClass, hf, State.methodNamed?_setVm h, arm_isInterface_setVm h]
section GCI
variable {p : Program} {l : Launch} {e : Env} {R : Room} {s : State} {m : MethodId} {args : Array Value} {below : List Frame} {meth : Method} {c : Code} {Q : State → Prop} {s0 : State} {a0 : Array Value} {G : GG} {cc : ByteArray} {own : String} {nL tg : Nat} {h0 h : AH} {bc bs pc n : Nat} {L : List (Option Value)} {st : List Value}
theorem gci_tb : TW (.selects RJx4a65c ogC ogC) ∧ TW (.instanceMethod ogC) ∧ TW (.native ogC) ∧ (Cond.declares ogC) ∈ lw_tbl ∧ (Cond.interfaceMethod "java/util/Collection" "java/lang/Object" "getClass" "()Ljava/lang/Class;") ∈ lw_tbl ∧ (Cond.publicMethod ogC) ∈ lw_tbl ∧ (Cond.unhidden RJx4a65c "getClass" "()Ljava/lang/Class;") ∈ lw_tbl ∧ (Cond.castable RJx4a65c "java/util/Collection") ∈ lw_tbl := ⟨⟨List.mem_of_getElem? (i := 589) (by decide +kernel), by decide +kernel⟩, ⟨List.mem_of_getElem? (i := 576) (by decide +kernel), by decide +kernel⟩, ⟨List.mem_of_getElem? (i := 591) (by decide +kernel), by decide +kernel⟩, List.mem_of_getElem? (i := 1369) (by decide +kernel), List.mem_of_getElem? (i := 1368) (by decide +kernel), List.mem_of_getElem? (i := 1371) (by decide +kernel), List.mem_of_getElem? (i := 1370) (by decide +kernel), List.mem_of_getElem? (i := 1360) (by decide +kernel)⟩
theorem aw_getCI (X : MX p l s m meth c s0 a0 G cc own nL) {a t index count mi : Nat} {fs : List Value} (hd : decode cc pc = .ok (.invokeinterface index count, 5)) (hn : pc + 5 = n) (hlink : TW (.methodLink own index cgC)) (hM : va_Mi "java/util/ArrayList" mi s0) (hh : h a = some (t, .inr (1, fs))) (hR : 1 ≤ R.frames) (hR2 : (st.map fun v => v.category).sum + 14 ≤ R.locals) (k : AW p l e R s m args below meth c Q s0 G nL tg h0 h bc bs n L (.ref mi :: st)) : AW p l e R s m args below meth c Q s0 G nL tg h0 h bc bs pc L (.ref a :: st) := by
  intro H locs cells slots ls r f z hc hs hl T hT Xs
  obtain ⟨w1, w2, w3, w4, w5, w6, w7, w8⟩ := gci_tb
  have hal := X.2.2.2.2.2.1.1.alike
  have hD0 := X.1.2.1 _ w4
  have hF0 := X.1.2.1 _ w5
  have hdecl : (Cond.declares ogC).before args s = true := X.wd w4 rfl
  have hface : (Cond.interfaceMethod "java/util/Collection" "java/lang/Object" "getClass" "()Ljava/lang/Class;").before args s = true := va_any rfl (tr_vm (U := s) rfl (by rw [ifm_setVm hal]; exact va_any rfl hF0))
  have hpub : (Cond.publicMethod ogC).before args s = true := va_any rfl (tr_vm (U := s) rfl (by rw [Cond.publicMethod_setVm hal]; exact va_any rfl (X.1.2.1 _ w6)))
  have hunh : (Cond.unhidden RJx4a65c "getClass" "()Ljava/lang/Class;").before args s = true := va_any rfl (tr_vm (U := s) rfl (by rw [Cond.unhidden_setVm hal]; exact va_any rfl (X.1.2.1 _ w7)))
  have hcast : (Cond.castable RJx4a65c "java/util/Collection").before args s = true := X.wd w8 rfl
  obtain ⟨c0, k0, h1, h2, h3⟩ := hM.moved hal
  obtain ⟨cell, g1, g2, g3⟩ := X.recv (C := RJx4a65c) r hh rfl
  obtain ⟨vm', X', st9⟩ := Xs.getClassOfI X.2.1 X.2.2.2.2.1 (X.tw hlink) hdecl hface (sel_cg (X.tw w1) hface hdecl) (X.tw w2) hpub hunh hcast (X.tw w3) ⟨by decide, by decide⟩ (by decide) rfl rfl h1 h2 ⟨cell, by rw [hT]; exact g1, Option.some.inj (g3.symm.trans h1), g2⟩ h3 (g := F0 m pc ls (.ref a :: st)) rfl (by show ls.size = _; rw [X.2.2.2.1]; exact hl.1) rfl (by rw [X.2.2.1]; exact hd) hR (by show 2 * 0 + _ + _ ≤ _; have hw : nativeFrameWords "java/lang/Object" "getClass" 1 = 3 := (by decide); omega)
  obtain ⟨t9, a1, b1⟩ := k H locs cells slots ls r f z hc hs hl (T.setVm vm') hT X'
  rw [← hn] at a1
  exact ⟨t9, st9 t9 a1, b1⟩
end GCI

set_option maxHeartbeats 4000000 in
set_option maxRecDepth 100000 in
theorem k_cp3 {l : Launch} {s0 : State} {a0 : Array Value} {G : GG} (X : CX l s0 a0 G) {h : AH} {tg a t len k : Nat} {g : Nat → Option Nat} (htg : tg ≠ 0) (ha : h a = some (t, oArr len g)) (hl : len < 65536) (hk : k < 65536) (hel : ∀ j, j < k → ∀ y, g j = some y → ∃ ty x, h y = some (ty, x) ∧ OB x) : Con l s0 G yJ7_copyOf_6403c cJ7_copyOf_6403c 4 (some (.array (.object "java/lang/Object"))) 1 1 k tg [.ref a, .int (nI k), .ref (G.2.2 2)] h (fun r h2 => ∃ q, h q = none ∧ some (.ref q) = r ∧ hu h q (tg, oArr k (va_cpy g (fun _ => none) 0 0 (if k < len then k else len))) = h2) := by
  refine Con.of X (by decide +kernel) [some (.ref a), some (.int (nI k)), some (.ref (G.2.2 2)), none] rfl (Nat.le_of_ble_eq_true rfl) (fun p e s m below meth c X hnm hret => ?_)
  refine aw_ald2 X dJ7_copyOf_6403c_0 rfl ?_
  refine aw_ldcC X dJ7_copyOf_6403c_1 rfl cc_J7_110 X.1.2.2.2.2.2.2.2.2.1 ?_
  refine aw_acmp_ne (n2 := 13) X dJ7_copyOf_6403c_3 rfl rfl (fun c3 => absurd (rfl : G.2.2 2 = G.2.2 2) c3) (fun c3 => ?_)
  refine aw_ild1 X dJ7_copyOf_6403c_6 rfl ?_
  refine AW.mono (bc2 := 0 + 1) (bs2 := 0 + k) (by omega) (by omega) ?_
  refine aw_newq X dJ7_copyOf_6403c_7 rfl cc_J7_2 rfl hk (fun q7 hq7 => ?_)
  refine aw_goto (n := 24) X dJ7_copyOf_6403c_10 rfl ?_
  refine aw_ast3 X dJ7_copyOf_6403c_24 rfl (by decide) rfl ?_
  refine aw_ald0 X dJ7_copyOf_6403c_25 rfl ?_
  refine aw_iconst X (0) dJ7_copyOf_6403c_26 (by decide) rfl ?_
  refine aw_ald3 X dJ7_copyOf_6403c_27 rfl ?_
  refine aw_iconst X (0) dJ7_copyOf_6403c_28 (by decide) rfl ?_
  refine aw_ald0 X dJ7_copyOf_6403c_29 rfl ?_
  refine aw_alen X dJ7_copyOf_6403c_30 rfl (hu_k hq7 ha) (by decide) ?_
  refine aw_ild1 X dJ7_copyOf_6403c_31 rfl ?_
  refine aw_mmin X dJ7_copyOf_6403c_32 rfl ⟨ml_J7_304, mm_min⟩ (Nat.le_of_ble_eq_true rfl) (Nat.le_of_ble_eq_true rfl) ?_
  refine aw_acopy X dJ7_copyOf_6403c_35 rfl htg ⟨ml_J7_150, ac_ok⟩ (hu_k hq7 ha) hu_s (hmin k len (by omega) (by omega)) (by split <;> omega) (by split <;> omega) (by split <;> omega) (fun j hj y hy => ex_hu hq7 (hel j (by split at hj <;> omega) y hy)) (Nat.le_of_ble_eq_true rfl) (Nat.le_of_ble_eq_true rfl) ?_
  refine aw_ald3 X dJ7_copyOf_6403c_38 rfl ?_
  exact aw_aret X hret (Or.inr ⟨_, rfl⟩) dJ7_copyOf_6403c_39 (⟨q7, hq7, rfl, hu_hu.symm⟩)

set_option maxHeartbeats 4000000 in
set_option maxRecDepth 100000 in
theorem k_cp2 {l : Launch} {s0 : State} {a0 : Array Value} {G : GG} (X : CX l s0 a0 G) {h : AH} {tg a t len k : Nat} {g : Nat → Option Nat} (htg : tg ≠ 0) (ha : h a = some (t, oArr len g)) (hl : len < 65536) (hk : k < 65536) (hel : ∀ j, j < k → ∀ y, g j = some y → ∃ ty x, h y = some (ty, x) ∧ OB x) : Con l s0 G yJ7_copyOf_1904c cJ7_copyOf_1904c 2 (some (.array (.object "java/lang/Object"))) 2 1 k tg [.ref a, .int (nI k)] h (fun r h2 => ∃ q, h q = none ∧ some (.ref q) = r ∧ hu h q (tg, oArr k (va_cpy g (fun _ => none) 0 0 (if k < len then k else len))) = h2) := by
  refine Con.of X (by decide +kernel) [some (.ref a), some (.int (nI k))] rfl (Nat.le_of_ble_eq_true rfl) (fun p e s m below meth c X hnm hret => ?_)
  refine aw_ald0 X dJ7_copyOf_1904c_0 rfl ?_
  refine aw_ild1 X dJ7_copyOf_1904c_1 rfl ?_
  refine aw_ald0 X dJ7_copyOf_1904c_2 rfl ?_
  refine aw_getC X dJ7_copyOf_1904c_3 rfl ⟨ml_J7_86, gc_ok⟩ X.1.2.2.2.2.2.2.2.2.1 ha (Nat.le_of_ble_eq_true rfl) (Nat.le_of_ble_eq_true rfl) ?_
  refine AW.mono (bc2 := 0 + 1) (bs2 := 0 + k) (by omega) (by omega) ?_
  refine aw_callS X dJ7_copyOf_1904c_6 rfl (k_cp3 X.1 htg ha hl hk hel) cmJ7_copyOf_6403c ml_J7_300 rfl rfl (Nat.le_of_ble_eq_true rfl) ⟨Nat.le_of_ble_eq_true rfl, Nat.le_of_ble_eq_true rfl⟩ (fun r h2 hq hf => ?_)
  obtain ⟨q, hq1, rfl, rfl⟩ := hq
  exact aw_aret X hret (Or.inr ⟨_, rfl⟩) dJ7_copyOf_1904c_9 (⟨q, hq1, rfl, rfl⟩)

set_option maxHeartbeats 4000000 in
set_option maxRecDepth 100000 in
theorem k_Jx4a65c_toArray_d5877 {l : Launch} {s0 : State} {a0 : Array Value} {G : GG} (X : CX l s0 a0 G) {h : AH} {tg tL te L ed cap n : Nat} {g : Nat → Option Nat} {md : Int32} (htg : tg ≠ 0) (hL : h L = some (tL, oLst md ed (nI n))) (hE : h ed = some (te, oArr cap g)) (hn : n ≤ cap) (hc : cap ≤ 15) (hel : ∀ j, j < n → ∀ y, g j = some y → ∃ ty x, h y = some (ty, x) ∧ OB x) : Con l s0 G yJx4a65c_toArray_d5877 cJx4a65c_toArray_d5877 1 (some (.array (.object "java/lang/Object"))) 3 1 n tg [.ref L] h (fun r h2 => ∃ q, h q = none ∧ some (.ref q) = r ∧ hu h q (tg, oArr n (va_cpy g (fun _ => none) 0 0 n)) = h2) := by
  refine Con.of X (by decide +kernel) [some (.ref L)] rfl (Nat.le_of_ble_eq_true rfl) (fun p e s m below meth c X hnm hret => ?_)
  refine aw_ald0 X dJx4a65c_toArray_d5877_0 rfl ?_
  refine aw_get X fd_Jx4a65c_9 dJx4a65c_toArray_d5877_1 rfl hL rfl ?_
  refine aw_ald0 X dJx4a65c_toArray_d5877_4 rfl ?_
  refine aw_get X fd_Jx4a65c_48 dJx4a65c_toArray_d5877_5 rfl hL rfl ?_
  refine AW.mono (bc2 := 0 + 1) (bs2 := 0 + n) (by omega) (by omega) ?_
  have hmn : (if n < cap then n else cap) = n := by split <;> omega
  refine aw_callS X dJx4a65c_toArray_d5877_8 rfl (k_cp2 X.1 (k := n) htg hE (by omega) (by omega) hel) cmJ7_copyOf_1904c ml_Jx4a65c_66 rfl rfl (Nat.le_of_ble_eq_true rfl) ⟨Nat.le_of_ble_eq_true rfl, Nat.le_of_ble_eq_true rfl⟩ (fun r h2 hq hf => ?_)
  obtain ⟨q, hq1, rfl, rfl⟩ := hq
  exact aw_aret X hret (Or.inr ⟨_, rfl⟩) dJx4a65c_toArray_d5877_11 (⟨q, hq1, rfl, by rw [hmn]⟩)

set_option maxHeartbeats 4000000 in
set_option maxRecDepth 100000 in
theorem k_lcopy {l : Launch} {s0 : State} {a0 : Array Value} {G : GG} (X : CX l s0 a0 G) {h : AH} {tg tL te t1 a L ed cap n : Nat} {g : Nat → Option Nat} {md : Int32} (htg : tg ≠ 0) (ha : h a = some (tg, .inr (1, [.int 0, .null, .int 0]))) (hL : h L = some (tL, oLst md ed (nI n))) (haL : a ≠ L) (hE : h ed = some (te, oArr cap g)) (hn : n ≤ cap) (hc : cap ≤ 15) (h1 : h (G.2.2 1) = some (t1, oArr 0 (fun _ => none))) (hel : ∀ j, j < n → ∀ y, g j = some y → ∃ ty x, h y = some (ty, x) ∧ OB x) : Con l s0 G yJx4a65c_init_4bcb3 cJx4a65c_init_4bcb3 3 none 4 1 n tg [.ref a, .ref L] h (fun r h2 => none = r ∧ ∃ (ed2 : Nat) (g2 : Nat → Option Nat), LR h2 tg a n g2 ed2 n 0 ∧ (∀ j, j < n → g2 j = g j) ∧ (0 < n → h2 ed2 = some (tg, oArr n g2)) ∧ (0 < n → h ed2 = none) ∧ ∀ b c, h b = some c → b ≠ a → h2 b = some c) := by
  refine Con.of X (by decide +kernel) [some (.ref a), some (.ref L), none] rfl (Nat.le_of_ble_eq_true rfl) (fun p e s m below meth c X hnm hret => ?_)
  have haE : a ≠ G.2.2 1 := kk_ne ha h1 (show (1 : Nat) ≠ 103 by decide)
  refine aw_ald0 X dJx4a65c_init_4bcb3_0 rfl ?_
  refine aw_callI X dJx4a65c_init_4bcb3_1 rfl (k_Jxc12de_init_da8c8 X.1 (ed := 0) htg ha) cmJxc12de_init_da8c8 ml_Jx4a65c_1 rfl rfl (Nat.le_of_ble_eq_true rfl) ⟨Nat.le_of_ble_eq_true rfl, Nat.le_of_ble_eq_true rfl⟩ (aw_rv ?_)
  refine aw_ald1 X dJx4a65c_init_4bcb3_4 rfl ?_
  refine AW.mono (bc2 := 0 + 1) (bs2 := 0 + n) (by omega) (by omega) ?_
  refine aw_callF X dJx4a65c_init_4bcb3_5 rfl (k_Jx4a65c_toArray_d5877 X.1 htg hL hE hn hc hel) cfJx4a65c_toArray_d5877 ml_Jx4a65c_42 rfl hL rfl rfl (Nat.le_of_ble_eq_true rfl) ⟨Nat.le_of_ble_eq_true rfl, Nat.le_of_ble_eq_true rfl⟩ (fun r h2 hq hf => ?_)
  obtain ⟨q, hq1, rfl, rfl⟩ := hq
  have hqa : a ≠ q := nn_ne ha hq1
  refine aw_ast2 X dJx4a65c_init_4bcb3_10 rfl (by decide) rfl ?_
  refine aw_ald0 X dJx4a65c_init_4bcb3_11 rfl ?_
  refine aw_ald2 X dJx4a65c_init_4bcb3_12 rfl ?_
  refine aw_alen X dJx4a65c_init_4bcb3_13 rfl hu_s (by decide) ?_
  refine aw_dup_x1 X dJx4a65c_init_4bcb3_14 rfl rfl rfl ?_
  refine aw_put X fd_Jx4a65c_48 fw_Jx4a65c_2 dJx4a65c_init_4bcb3_15 rfl htg (hu_k hq1 ha) rfl rfl (Nat.le_of_ble_eq_true rfl) ?_
  refine aw_if_eq (n2 := 57) X dJx4a65c_init_4bcb3_18 rfl rfl (fun c18 => ?_) (fun c18 => ?_)
  · have hn0 : n = 0 := (nI_eq (b := 0) (by omega) (by decide)).mp c18
    subst hn0
    refine aw_ald0 X dJx4a65c_init_4bcb3_57 rfl ?_
    refine aw_gets1 X dJx4a65c_init_4bcb3_58 rfl fs_Jx4a65c_15 ?_
    refine aw_put X fd_Jx4a65c_9 fw_Jx4a65c_1 dJx4a65c_init_4bcb3_61 rfl htg hu_s rfl rfl (Nat.le_of_ble_eq_true rfl) ?_
    exact aw_vret X hret dJx4a65c_init_4bcb3_64 (⟨rfl, G.2.2 1, fun _ => none, ⟨by rw [hu_hu]; exact hu_s, Nat.le_refl _, by omega, t1, by rw [hu_hu]; exact (hu_n haE.symm).trans (hu_k hq1 h1)⟩, fun j hj => absurd hj (Nat.not_lt_zero _), fun z => absurd z (Nat.lt_irrefl _), fun z => absurd z (Nat.lt_irrefl _), fun b c e n9 => by rw [hu_hu]; exact (hu_n n9).trans (hu_k hq1 e)⟩)
  · refine aw_ald1 X dJx4a65c_init_4bcb3_21 rfl ?_
    refine aw_getCI X dJx4a65c_init_4bcb3_22 rfl ml_Jx4a65c_52 X.1.2.2.2.2.2.2.2.2.2.1 ((hu_n haL.symm).trans (hu_k hq1 hL)) (Nat.le_of_ble_eq_true rfl) (Nat.le_of_ble_eq_true rfl) ?_
    refine aw_ldcC X dJx4a65c_init_4bcb3_27 rfl cc_Jx4a65c_10 X.1.2.2.2.2.2.2.2.2.2.1 ?_
    refine aw_acmp_ne (n2 := 40) X dJx4a65c_init_4bcb3_29 rfl rfl (fun c29 => absurd (rfl : G.2.2 3 = G.2.2 3) c29) (fun c29 => ?_)
    refine aw_ald0 X dJx4a65c_init_4bcb3_32 rfl ?_
    refine aw_ald2 X dJx4a65c_init_4bcb3_33 rfl ?_
    refine aw_put X fd_Jx4a65c_9 fw_Jx4a65c_1 dJx4a65c_init_4bcb3_34 rfl htg hu_s rfl rfl (Nat.le_of_ble_eq_true rfl) ?_
    refine aw_goto (n := 64) X dJx4a65c_init_4bcb3_37 rfl ?_
    exact aw_vret X hret dJx4a65c_init_4bcb3_64 (⟨rfl, q, va_cpy g (fun _ => none) 0 0 n, ⟨by rw [hu_hu]; exact hu_s, Nat.le_refl _, by omega, tg, by rw [hu_hu]; exact (hu_n hqa.symm).trans hu_s⟩, fun j hj => (pk_cpy_in (Nat.zero_le _) (by omega)).trans (by congr 1; omega), fun _ => by rw [hu_hu]; exact (hu_n hqa.symm).trans hu_s, fun _ => hq1, fun b c e n9 => by rw [hu_hu]; exact (hu_n n9).trans (hu_k hq1 e)⟩)
