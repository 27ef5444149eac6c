/-! contracts over the store, and calls by them -/
def cPc (s0 : State) (G : GG) (av : List Value) (h : AH) : Array Value → State → Prop := va_Pc av (fun U => At0 s0 U ∧ Rep G s0.heap.size h U.heap)
def cQc (s0 : State) (G : GG) (tg : Nat) (h : AH) (Qr : Option Value → AH → Prop) : Array Value → State → Outcome → State → Prop := fun _ st o t => (∃ (r : Option Value) (h2 : AH), o = .returned r ∧ Qr r h2 ∧ FrT tg h h2 ∧ Rep G s0.heap.size h2 t.heap) ∧ va_F (fun q => s0.heap.size ≤ q) st t
def rmv (d mc ms : Nat) : Room := { frames := d, cells := mc, slots := ms, locals := 32 * d }
/-- the method y, called with av over the store h, returns; its answer and the store behind it are as Qr says; at most mc cells of ms slots are new; d calls deep -/
def Con (l : Launch) (s0 : State) (G : GG) (y : MethodName) (cy : ByteArray) (maxL : Nat) (ret : Option FieldType) (d mc ms tg : Nat) (av : List Value) (h : AH) (Qr : Option Value → AH → Prop) : Prop :=
  Met l y [Cond.code y cy maxL ret] (rmv d mc ms) (cPc s0 G av h) (cQc s0 G tg h Qr) mc ms (fun q => s0.heap.size ≤ q)
theorem cPc.blind {s0 : State} {G : GG} {av : List Value} {h : AH} : FrameBlind (cPc s0 G av h) := fun _ _ _ _ q => q
theorem Con.imp {l : Launch} {s0 : State} {G : GG} {y : MethodName} {cy : ByteArray} {maxL : Nat} {ret : Option FieldType} {d mc ms tg : Nat} {av : List Value} {h : AH} {Qr Q2 : Option Value → AH → Prop} (k : Con l s0 G y cy maxL ret d mc ms tg av h Qr) (hq : ∀ r h2, Qr r h2 → Q2 r h2) : Con l s0 G y cy maxL ret d mc ms tg av h Q2 := by
  intro p e ha hc hk s m args below hf happ hP hK
  obtain ⟨t, o, h1, h2, h3, ⟨⟨r, hh, e1, e2, e3⟩, e4⟩, e5⟩ := k p e ha hc hk s m args below hf happ hP hK
  exact ⟨t, o, h1, h2, h3, ⟨⟨r, hh, e1, hq r hh e2, e3⟩, e4⟩, e5⟩
theorem Con.of {l : Launch} {s0 : State} {a0 : Array Value} {G : GG} {y : MethodName} {cy : ByteArray} {maxL : Nat} {ret : Option FieldType} {d mc ms tg : Nat} {av : List Value} {h : AH} {Qr : Option Value → AH → Prop} (X : CX l s0 a0 G) (hy : plainName y.cls = true) (L0 : List (Option Value)) (hL : asc L0 0 = lv_args 0 av) (hlen : (lg_sl av).length ≤ maxL)
    (body : ∀ (p : Program) (e : Env) (s : State) (m : MethodId) (below : List Frame) (meth : Method) (c : Code), MX p l s m meth c s0 a0 G cy y.cls maxL → meth.name = y.name → meth.sig.returnType = ret →
      AW p l e (rmv d mc ms) s m av.toArray below meth c (MQ below (cQc s0 G tg h Qr) av.toArray s mc ms (fun q => s0.heap.size ≤ q)) s0 G maxL tg h h mc ms 0 L0 []) : Con l s0 G y cy maxL ret d mc ms tg av h Qr := by
  refine Met.ofW (cc := cy) (maxL := maxL) (ret := ret) hy rfl ?_
  intro p e s m args below meth c s₁ B hml hv
  obtain ⟨rfl, hat, hrep⟩ := hv
  have hown : s.vm.findClass y.cls = some m.cls := findClass_of_methodNamed B.named
  have hMX : MX p l s m meth c s0 a0 G cy y.cls maxL := ⟨X, B.exec, B.bytes, hml, hown, hat, B.notSynchronized⟩
  have hl := lv_entry av (n := maxL) hlen
  rw [lg_entry_eq]
  rw [← hL] at hl
  exact body p e s m below meth c hMX (name_of_methodNamed B.named B.method).1 B.returns s.heap [] 0 0 _ hrep FrT.rf va_S.rf (Nat.le_of_eq (Nat.zero_add _)) (Nat.le_of_eq (Nat.zero_add _)) hl

section AWC
variable {p : Program} {l : Launch} {e : Env} {s : State} {m : MethodId} {args : Array Value} {below : List Frame} {meth : Method} {c : Code} {s0 : State} {a0 : Array Value} {G : GG} {cc : ByteArray} {own : String} {nL tg : Nat} {h0 h : AH} {bc bs pc n : Nat} {L : List (Option Value)} {st : List Value}
variable {a t d mc ms : Nat} {Qr : Option Value → AH → Prop}
theorem aw_iret (X : MX p l s m meth c s0 a0 G cc own nL) {ty : FieldType} {v : Int32} (hr : meth.sig.returnType = some ty) (hnar : narrow ty (.int v) = .int v) (hd : decode cc pc = .ok (.ireturn, 1)) (hq : Qr (some (.int v)) h) : AW p l e (rmv d mc ms) s m args below meth c (MQ below (cQc s0 G tg h0 Qr) args s mc ms (fun q => s0.heap.size ≤ q)) s0 G nL tg h0 h bc bs pc L [.int v] := by
  intro H locs cells slots ls r f z hc hs hl
  refine W.widen (k := mc) (n := ms) (Nat.le_trans (Nat.le_add_right _ _) hc) (Nat.le_trans (Nat.le_add_right _ _) hs) ?_
  exact W.zret X.2.1 X.2.2.1 hr hnar (fun t ht hW => ⟨⟨_, h, rfl, hq, f, by rw [ht]; exact r⟩, z.F ht⟩) z.2.2 hd X.2.2.2.2.2.2
theorem aw_vret (X : MX p l s m meth c s0 a0 G cc own nL) (hr : meth.sig.returnType = none) (hd : decode cc pc = .ok (.return_, 1)) (hq : Qr none h) : AW p l e (rmv d mc ms) s m args below meth c (MQ below (cQc s0 G tg h0 Qr) args s mc ms (fun q => s0.heap.size ≤ q)) s0 G nL tg h0 h bc bs pc L [] := by
  intro H locs cells slots ls r f z hc hs hl
  refine W.widen (k := mc) (n := ms) (Nat.le_trans (Nat.le_add_right _ _) hc) (Nat.le_trans (Nat.le_add_right _ _) hs) ?_
  exact W.vret X.2.1 X.2.2.1 hr (fun t ht hW => ⟨⟨_, h, rfl, hq, f, by rw [ht]; exact r⟩, z.F ht⟩) z.2.2 hd X.2.2.2.2.2.2
theorem aw_aret (X : MX p l s m meth c s0 a0 G cc own nL) {rt : FieldType} {y : Nat} (hr : meth.sig.returnType = some rt) (hrt : (∃ n, rt = .object n) ∨ ∃ t, rt = .array t) (hd : decode cc pc = .ok (.areturn, 1)) (hq : Qr (some (.ref y)) h) : AW p l e (rmv d mc ms) s m args below meth c (MQ below (cQc s0 G tg h0 Qr) args s mc ms (fun q => s0.heap.size ≤ q)) s0 G nL tg h0 h bc bs pc L [.ref y] := by
  intro H locs cells slots ls r f z hc hs hl
  refine W.widen (k := mc) (n := ms) (Nat.le_trans (Nat.le_add_right _ _) hc) (Nat.le_trans (Nat.le_add_right _ _) hs) ?_
  exact W.aret X.2.1 X.2.2.1 hr hrt (Or.inr ⟨y, rfl⟩) (fun t ht hW => ⟨⟨_, h, rfl, hq, f, by rw [ht]; exact r⟩, z.F ht⟩) z.2.2 hd X.2.2.2.2.2.2
theorem aw_lret (X : MX p l s m meth c s0 a0 G cc own nL) {v : Int64} (hr : meth.sig.returnType = some .long) (hd : decode cc pc = .ok (.lreturn, 1)) (hq : Qr (some (.long v)) h) : AW p l e (rmv d mc ms) s m args below meth c (MQ below (cQc s0 G tg h0 Qr) args s mc ms (fun q => s0.heap.size ≤ q)) s0 G nL tg h0 h bc bs pc L [.long v] := by
  intro H locs cells slots ls r f z hc hs hl
  refine W.widen (k := mc) (n := ms) (Nat.le_trans (Nat.le_add_right _ _) hc) (Nat.le_trans (Nat.le_add_right _ _) hs) ?_
  exact W.lret X.2.1 X.2.2.1 hr (fun t ht hW => ⟨⟨_, h, rfl, hq, f, by rw [ht]; exact r⟩, z.F ht⟩) z.2.2 hd X.2.2.2.2.2.2
theorem aw_dret (X : MX p l s m meth c s0 a0 G cc own nL) {v : UInt64} (hr : meth.sig.returnType = some .double) (hd : decode cc pc = .ok (.dreturn, 1)) (hq : Qr (some (.double v)) h) : AW p l e (rmv d mc ms) s m args below meth c (MQ below (cQc s0 G tg h0 Qr) args s mc ms (fun q => s0.heap.size ≤ q)) s0 G nL tg h0 h bc bs pc L [.double v] := by
  intro H locs cells slots ls r f z hc hs hl
  refine W.widen (k := mc) (n := ms) (Nat.le_trans (Nat.le_add_right _ _) hc) (Nat.le_trans (Nat.le_add_right _ _) hs) ?_
  exact W.dret X.2.1 X.2.2.1 hr (fun t ht hW => ⟨⟨_, h, rfl, hq, f, by rw [ht]; exact r⟩, z.F ht⟩) z.2.2 hd X.2.2.2.2.2.2
end AWC
section AWD
variable {p : Program} {l : Launch} {e : Env} {R : Room} {s : State} {m : MethodId} {args : Array Value} {below : List Frame} {meth : Method} {c : Code} {Q : State → Prop} {s0 : State} {a0 : Array Value} {G : GG} {cc : ByteArray} {own : String} {nL tg : Nat} {h0 h : AH} {bc bs pc n : Nat} {L : List (Option Value)} {st : List Value}
variable {a t d mc ms index maxL nA ci : Nat} {Qr : Option Value → AH → Prop} {y : MethodName} {cy : ByteArray} {ret : Option FieldType} {C : String} {T : u_T} {N : Nat} {b : Nat} {As stk : List Value} {fs : List Value}
/-- a method, as the tables have it -/
def CM (y : MethodName) (cy : ByteArray) (maxL : Nat) (ret : Option FieldType) (nA : Nat) : Prop := TW (.code y cy maxL ret) ∧ TW (.initialized y.cls) ∧ (y.cls ≠ "java/lang/invoke/MethodHandle" ∧ y.cls ≠ "java/lang/invoke/VarHandle") ∧ (parseMethodDescriptor y.desc).map (fun d => d.parameters.length) = some nA
theorem MX.words (X : MX p l s m meth c s0 a0 G cc own nL) (hc : TW (.code y cy maxL ret)) : ∀ w ∈ [Cond.code y cy maxL ret], ∀ (a' : Array Value) (U : State), s.WarmedH U.vm → w.before a' U = true := fun w hw a' U hW => by
  rw [List.mem_singleton.mp hw]
  exact word_at hW (good_of_word hc.2) (X.tw (args := #[]) hc)
theorem CM.len (hc : CM y cy maxL ret nA) : ∀ sig, parseMethodDescriptor y.desc = some sig → nA = sig.parameters.length := fun sig h => by
  have h2 := hc.2.2.2
  rw [h] at h2
  exact (Option.some.inj h2).symm
/-- deep enough -/
def DR (R : Room) (d maxL : Nat) : Prop := d + 1 ≤ R.frames ∧ 8 + (maxL + 11) + 32 * d ≤ R.locals
theorem MX.callB (X : MX p l s m meth c s0 a0 G cc own nL) (hc : CM y cy maxL ret nA) (hl : TW (.methodLink own index y)) (hR : DR R d maxL) : CallB R s args own index y cy maxL ret [Cond.code y cy maxL ret] (rmv d mc ms) mc ms nA :=
  ⟨rfl, rfl, hR.1, hR.2, X.words hc.1, List.mem_cons_self, X.tw hc.1, X.tw hc.2.1, hc.2.2.1, hc.len, X.tw hl⟩
theorem MX.pre (X : MX p l s m meth c s0 a0 G cc own nL) {H : Heap} {locs : List Loc} (r : Rep G s0.heap.size h H) (z : va_S (fun q => s0.heap.size ≤ q) s.heap H locs) {av : List Value} : ∀ U : State, U.heap = H → s.WarmedH U.vm → cPc s0 G av h av.toArray U := by
  intro U hU hW
  refine ⟨rfl, ⟨State.WarmedH.trans X.2.2.2.2.2.1.1 hW, fun q hq => ?_, by rw [hU]; exact X.big z⟩, by rw [hU]; exact r⟩
  rw [hU, z.2.1 q (Nat.lt_of_lt_of_le hq X.2.2.2.2.2.1.2.2) (Nat.not_le.mpr hq)]
  exact X.2.2.2.2.2.1.2.1 q hq
theorem aw_after {H : Heap} {locs : List Loc} {cells slots : Nat} {ls : Array Slot} {rest st0 : List Value} {av : Array Value} (hr : va_Run p l e R s m args below meth c H locs cells slots mc ms (F0 m pc ls st0) rest (cQc s0 G tg h Qr av) (fun q => s0.heap.size ≤ q)) (f : FrT tg h0 h) (z : va_S (fun q => s0.heap.size ≤ q) s.heap H locs) (hc : cells + (bc + mc) ≤ R.cells) (hs : slots + (bs + ms) ≤ R.slots) (hl : lv_has ls nL (asc L 0))
    (kk : ∀ (r : Option Value) (h2 : AH), Qr r h2 → FrT tg h h2 → AW p l e R s m args below meth c Q s0 G nL tg h0 h2 bc bs (pc + 3) L (r.toList ++ rest)) : W p l e R s m args below meth c H locs cells slots Q (F0 m pc ls st0) := by
  intro T hT X
  obtain ⟨v, st₀, t, T', L9, e0, X', hL, e1, e2, ⟨⟨r, h2, hv, hq, hF, hR⟩, hz, hk⟩, st⟩ := hr T hT X
  cases hv
  rw [e0] at hz hk
  have hz9 : va_S (fun q => s0.heap.size ≤ q) s.heap T'.heap (locs ++ L9) := ⟨Nat.le_trans z.1 (by rw [e1]; exact hz), fun q h1 h2 => by rw [e1, hk q (Nat.lt_of_lt_of_le h1 z.1) h2]; exact z.2.1 q h1 h2, fun q hq => by
      rcases List.mem_append.mp hq with h | h
      · exact z.2.2 q h
      · exact hL q h⟩
  obtain ⟨t2, a1, b1⟩ := kk v h2 hq hF T'.heap (locs ++ L9) (cells + mc) (slots + ms) ls (by rw [e1]; exact hR) (f.trans hF) hz9 (by omega) (by omega) hl T' rfl X'
  exact ⟨t2, st t2 a1, b1⟩
theorem aw_callV (X : MX p l s m meth c s0 a0 G cc own nL) (hd : decode cc pc = .ok (.invokevirtual index, 3)) (hn : pc + 3 = n) (hcon : Con l s0 G y cy maxL ret d mc ms tg (.ref b :: As) h Qr) (hm : CM y cy maxL ret nA ∧ TW (.instanceMethod y) ∧ TW (.selects C y y)) (hl9 : TW (.methodLink own index y)) (hci : vwCl[ci]? = some (C, T, N)) (hh : h b = some (t, .inr (ci, fs))) (hst : stk = As.reverse ++ .ref b :: st) (hA : As.length = nA) (hcat : (st.map fun v => v.category).sum ≤ 8) (hR : DR R d maxL)
    (k : ∀ (r : Option Value) (h2 : AH), Qr r h2 → FrT tg h h2 → AW p l e R s m args below meth c Q s0 G nL tg h0 h2 bc bs n L (r.toList ++ st)) : AW p l e R s m args below meth c Q s0 G nL tg h0 h (bc + mc) (bs + ms) pc L stk := by
  intro H locs cells slots ls r f z hc hs hl
  subst hst
  exact aw_after (va_runV (C := C) (As := As) (rest := st) ⟨X.2.1, X.2.2.1, X.2.2.2.1, X.2.2.2.2.1, fun w (hw : w ∈ ([] : List Cond)) => nomatch hw⟩ hcon ⟨X.callB hm.1 hl9 hR, X.tw hm.2.1, X.tw hm.2.2⟩ ⟨cPc.blind, X.recv r hh hci, X.pre r z⟩ rfl hA hl.1 rfl (lv_room hcat) hd ⟨by omega, by omega⟩) f z hc hs hl (by rw [hn]; exact k)
theorem aw_callS (X : MX p l s m meth c s0 a0 G cc own nL) (hd : decode cc pc = .ok (.invokestatic index, 3)) (hn : pc + 3 = n) (hcon : Con l s0 G y cy maxL ret d mc ms tg As h Qr) (hm : CM y cy maxL ret nA ∧ TW (.static y)) (hl9 : TW (.methodLink own index y)) (hst : stk = As.reverse ++ st) (hA : As.length = nA) (hcat : (st.map fun v => v.category).sum ≤ 8) (hR : DR R d maxL)
    (k : ∀ (r : Option Value) (h2 : AH), Qr r h2 → FrT tg h h2 → AW p l e R s m args below meth c Q s0 G nL tg h0 h2 bc bs n L (r.toList ++ st)) : AW p l e R s m args below meth c Q s0 G nL tg h0 h (bc + mc) (bs + ms) pc L stk := by
  intro H locs cells slots ls r f z hc hs hl
  subst hst
  exact aw_after (va_runS (As := As) (rest := st) ⟨X.2.1, X.2.2.1, X.2.2.2.1, X.2.2.2.2.1, fun w (hw : w ∈ ([] : List Cond)) => nomatch hw⟩ hcon ⟨X.callB hm.1 hl9 hR, X.tw hm.2⟩ ⟨cPc.blind, X.pre r z⟩ rfl hA hl.1 rfl (lv_room hcat) hd ⟨by omega, by omega⟩) f z hc hs hl (by rw [hn]; exact k)
theorem aw_callI (X : MX p l s m meth c s0 a0 G cc own nL) (hd : decode cc pc = .ok (.invokespecial index, 3)) (hn : pc + 3 = n) (hcon : Con l s0 G y cy maxL none d mc ms tg (.ref b :: As) h Qr) (hm : CM y cy maxL none nA ∧ TW (.instanceMethod y) ∧ y.name = "<init>") (hl9 : TW (.methodLink own index y)) (hst : stk = As.reverse ++ .ref b :: st) (hA : As.length = nA) (hcat : (st.map fun v => v.category).sum ≤ 8) (hR : DR R d maxL)
    (k : ∀ (r : Option Value) (h2 : AH), Qr r h2 → FrT tg h h2 → AW p l e R s m args below meth c Q s0 G nL tg h0 h2 bc bs n L (r.toList ++ st)) : AW p l e R s m args below meth c Q s0 G nL tg h0 h (bc + mc) (bs + ms) pc L stk := by
  intro H locs cells slots ls r f z hc hs hl
  subst hst
  exact aw_after (va_runI (As := As) (rest := st) ⟨X.2.1, X.2.2.1, X.2.2.2.1, X.2.2.2.2.1, fun w (hw : w ∈ ([] : List Cond)) => nomatch hw⟩ hcon ⟨X.callB hm.1 hl9 hR, hm.2.2, X.tw hm.2.1⟩ ⟨cPc.blind, X.pre r z⟩ rfl hA hl.1 rfl (lv_room hcat) hd ⟨by omega, by omega⟩) f z hc hs hl (by rw [hn]; exact k)
theorem MX.callN (X : MX p l s m meth c s0 a0 G cc own nL) {host : String} (hc : CM y cy maxL ret nA) (hl : (Cond.methodLinkNest own index y host) ∈ lw_tbl) (hR : DR R d maxL) : va_CN R s args own index y host cy maxL ret [Cond.code y cy maxL ret] (rmv d mc ms) mc ms nA :=
  ⟨⟨rfl, rfl, hR.1, hR.2, X.words hc.1, List.mem_cons_self⟩, X.tw hc.1, X.tw hc.2.1, hc.2.2.1, hc.len, va_Nw.use rfl (va_Nw.warmM X.2.2.2.2.2.1.1 (X.nw hl rfl))⟩
theorem aw_callSN (X : MX p l s m meth c s0 a0 G cc own nL) {host : String} (hd : decode cc pc = .ok (.invokestatic index, 3)) (hn : pc + 3 = n) (hcon : Con l s0 G y cy maxL ret d mc ms tg As h Qr) (hm : CM y cy maxL ret nA ∧ TW (.static y)) (hl9 : (Cond.methodLinkNest own index y host) ∈ lw_tbl) (hst : stk = As.reverse ++ st) (hA : As.length = nA) (hcat : (st.map fun v => v.category).sum ≤ 8) (hR : DR R d maxL)
    (k : ∀ (r : Option Value) (h2 : AH), Qr r h2 → FrT tg h h2 → AW p l e R s m args below meth c Q s0 G nL tg h0 h2 bc bs n L (r.toList ++ st)) : AW p l e R s m args below meth c Q s0 G nL tg h0 h (bc + mc) (bs + ms) pc L stk := by
  intro H locs cells slots ls r f z hc hs hl
  subst hst
  exact aw_after (va_runSN (As := As) (rest := st) ⟨X.2.1, X.2.2.1, X.2.2.2.1, X.2.2.2.2.1, fun w (hw : w ∈ ([] : List Cond)) => nomatch hw⟩ hcon ⟨X.callN hm.1 hl9 hR, X.tw hm.2, trivial⟩ ⟨cPc.blind, X.pre r z⟩ rfl hA hl.1 rfl (lv_room hcat) hd ⟨by omega, by omega⟩) f z hc hs hl (by rw [hn]; exact k)
theorem aw_callIN (X : MX p l s m meth c s0 a0 G cc own nL) {host : String} (hd : decode cc pc = .ok (.invokespecial index, 3)) (hn : pc + 3 = n) (hcon : Con l s0 G y cy maxL none d mc ms tg (.ref b :: As) h Qr) (hm : CM y cy maxL none nA ∧ TW (.instanceMethod y) ∧ y.name = "<init>") (hl9 : (Cond.methodLinkNest own index y host) ∈ lw_tbl) (hst : stk = As.reverse ++ .ref b :: st) (hA : As.length = nA) (hcat : (st.map fun v => v.category).sum ≤ 8) (hR : DR R d maxL)
    (k : ∀ (r : Option Value) (h2 : AH), Qr r h2 → FrT tg h h2 → AW p l e R s m args below meth c Q s0 G nL tg h0 h2 bc bs n L (r.toList ++ st)) : AW p l e R s m args below meth c Q s0 G nL tg h0 h (bc + mc) (bs + ms) pc L stk := by
  intro H locs cells slots ls r f z hc hs hl
  subst hst
  exact aw_after (va_runIN (As := As) (rest := st) ⟨X.2.1, X.2.2.1, X.2.2.2.1, X.2.2.2.2.1, fun w (hw : w ∈ ([] : List Cond)) => nomatch hw⟩ hcon ⟨X.callN hm.1 hl9 hR, hm.2.2, X.tw hm.2.1⟩ ⟨cPc.blind, X.pre r z⟩ rfl hA hl.1 rfl (lv_room hcat) hd ⟨by omega, by omega⟩) f z hc hs hl (by rw [hn]; exact k)
theorem aw_getN (X : MX p l s m meth c s0 a0 G cc own nL) {index ci fi : Nat} {ref : String} (hci : vwCl[ci]? = some (C, T, N)) (hF : FT ci C T N) (hk9 : fi < N) (hr9 : ref = (T fi).1) (hf : (Cond.fieldLinkNest own index ref (T fi).2.1 (T fi).2.2.1 ref) ∈ lw_tbl) {v : Value} (hd : decode cc pc = .ok (.getfield index, 3)) (hn : pc + 3 = n) (hh : h a = some (t, .inr (ci, fs))) (hv : fs[fi]? = some v) (k : AW p l e R s m args below meth c Q s0 G nL tg h0 h bc bs n L (v :: st)) : AW p l e R s m args below meth c Q s0 G nL tg h0 h bc bs pc L (.ref a :: st) := by
  intro H locs cells slots ls r f z hc hs hl
  exact va_getN (D := G.1) (ci := ci) (C := C) (T := T) (N := N) (Ts := u_ws C T N) X.2.1 X.2.2.1 (fun w hw => X.tw (hF.2.1 w hw)) (fun _ q => q) X.2.2.2.2.1 X.kk (va_P1 (r.o hh).1) 0 rfl hci fi hk9 (va_Nw.use rfl (va_Nw.warmF X.2.2.2.2.2.1.1 (X.nw hf rfl))) (fun x hx => by rw [hr9]; exact hx) hv hd (by rw [hn]; exact k H locs cells slots ls r f z hc hs hl)
/-- a method called by an interface's name -/
def CF (C : String) (x y : MethodName) (cy : ByteArray) (maxL : Nat) (ret : Option FieldType) (nA : Nat) : Prop := TW (.code y cy maxL ret) ∧ TW (.initialized y.cls) ∧ TW (.instanceMethod y) ∧ TW (.selects C x y) ∧ ((Cond.declares x) ∈ lw_tbl ∧ (Cond.interfaceMethod x.cls x.cls x.name x.desc) ∈ lw_tbl ∧ (Cond.publicMethod y) ∈ lw_tbl ∧ (Cond.unhidden C x.name x.desc) ∈ lw_tbl ∧ (Cond.castable C x.cls) ∈ lw_tbl) ∧ (x.cls ≠ "java/lang/invoke/MethodHandle" ∧ x.cls ≠ "java/lang/invoke/VarHandle") ∧ (parseMethodDescriptor x.desc).map (fun d => d.parameters.length) = some nA
theorem aw_after5 {H : Heap} {locs : List Loc} {cells slots : Nat} {ls : Array Slot} {rest st0 : List Value} {av : Array Value} (hr : va_Run5 p l e R s m args below meth c H locs cells slots mc ms (F0 m pc ls st0) rest (cQc s0 G tg h Qr av) (fun q => s0.heap.size ≤ q)) (f : FrT tg h0 h) (z : va_S (fun q => s0.heap.size ≤ q) s.heap H locs) (hc : cells + (bc + mc) ≤ R.cells) (hs : slots + (bs + ms) ≤ R.slots) (hl : lv_has ls nL (asc L 0))
    (kk : ∀ (r : Option Value) (h2 : AH), Qr r h2 → FrT tg h h2 → AW p l e R s m args below meth c Q s0 G nL tg h0 h2 bc bs (pc + 5) L (r.toList ++ rest)) : W p l e R s m args below meth c H locs cells slots Q (F0 m pc ls st0) := by
  intro T hT X
  obtain ⟨v, st₀, t, T', L9, e0, X', hL, e1, e2, ⟨⟨r, h2, hv, hq, hF, hR⟩, hz, hk⟩, st⟩ := hr T hT X
  cases hv
  rw [e0] at hz hk
  have hz9 : va_S (fun q => s0.heap.size ≤ q) s.heap T'.heap (locs ++ L9) := ⟨Nat.le_trans z.1 (by rw [e1]; exact hz), fun q h1 h2 => by rw [e1, hk q (Nat.lt_of_lt_of_le h1 z.1) h2]; exact z.2.1 q h1 h2, fun q hq => by
      rcases List.mem_append.mp hq with h | h
      · exact z.2.2 q h
      · exact hL q h⟩
  obtain ⟨t2, a1, b1⟩ := kk v h2 hq hF T'.heap (locs ++ L9) (cells + mc) (slots + ms) ls (by rw [e1]; exact hR) (f.trans hF) hz9 (by omega) (by omega) hl T' rfl X'
  exact ⟨t2, st t2 a1, b1⟩
theorem aw_callF (X : MX p l s m meth c s0 a0 G cc own nL) {count : Nat} {x : MethodName} (hd : decode cc pc = .ok (.invokeinterface index count, 5)) (hn : pc + 5 = n) (hcon : Con l s0 G y cy maxL ret d mc ms tg (.ref b :: As) h Qr) (hm : CF C x y cy maxL ret nA) (hl9 : TW (.methodLink own index x)) (hci : vwCl[ci]? = some (C, T, N)) (hh : h b = some (t, .inr (ci, fs))) (hst : stk = As.reverse ++ .ref b :: st) (hA : As.length = nA) (hcat : (st.map fun v => v.category).sum ≤ 8) (hR : DR R d maxL)
    (k : ∀ (r : Option Value) (h2 : AH), Qr r h2 → FrT tg h h2 → AW p l e R s m args below meth c Q s0 G nL tg h0 h2 bc bs n L (r.toList ++ st)) : AW p l e R s m args below meth c Q s0 G nL tg h0 h (bc + mc) (bs + ms) pc L stk := by
  intro H locs cells slots ls r f z hc hs hl
  subst hst
  obtain ⟨m1, m2, m3, m4, ⟨g1, g2, g3, g4, g5⟩, m6, m7⟩ := hm
  have hF : va_Fw C x y s := va_Fw.moved m6 X.2.2.2.2.2.1.1.alike (va_Fw.of (X.1.2.1 _ g1) (X.1.2.1 _ g2) (X.1.2.1 _ g3) (X.1.2.1 _ g4) (X.1.2.1 _ g5))
  have hlen : ∀ sig, parseMethodDescriptor x.desc = some sig → nA = sig.parameters.length := fun sig h => by
    rw [h] at m7
    exact (Option.some.inj m7).symm
  exact aw_after5 (va_runF (C := C) (As := As) (rest := st) (X.kk.1 ci _ hci).2 ⟨X.2.1, X.2.2.1, X.2.2.2.1, X.2.2.2.2.1, fun w (hw : w ∈ ([] : List Cond)) => nomatch hw⟩ hcon ⟨⟨rfl, rfl, hR.1, hR.2, X.words m1, List.mem_cons_self⟩, X.tw hl9, va_any rfl hF.1, va_any rfl hF.2.1, X.tw m4, X.tw m3, va_any rfl hF.2.2.1, va_any rfl hF.2.2.2.1, va_any rfl hF.2.2.2.2, X.tw m2, X.tw m1, m6, hlen⟩ ⟨cPc.blind, X.recv r hh hci, X.pre r z⟩ rfl hA hl.1 rfl (lv_room hcat) hd ⟨by omega, by omega⟩) f z hc hs hl (by rw [hn]; exact k)
/-- the answer v, the store h -/
def RS (v : Value) (h : AH) : Option Value → AH → Prop := fun r h2 => some v = r ∧ h = h2
/-- no answer, the store h -/
def RV (h : AH) : Option Value → AH → Prop := fun r h2 => none = r ∧ h = h2
theorem aw_rs {h2 : AH} {v : Value} (k : AW p l e R s m args below meth c Q s0 G nL tg h0 h2 bc bs n L (v :: st)) : ∀ (r : Option Value) (h3 : AH), RS v h2 r h3 → FrT tg h h3 → AW p l e R s m args below meth c Q s0 G nL tg h0 h3 bc bs n L (r.toList ++ st) := by
  rintro _ _ ⟨rfl, rfl⟩ _
  exact k
theorem aw_rv {h2 : AH} (k : AW p l e R s m args below meth c Q s0 G nL tg h0 h2 bc bs n L st) : ∀ (r : Option Value) (h3 : AH), RV h2 r h3 → FrT tg h h3 → AW p l e R s m args below meth c Q s0 G nL tg h0 h3 bc bs n L (r.toList ++ st) := by
  rintro _ _ ⟨rfl, rfl⟩ _
  exact k
end AWD
