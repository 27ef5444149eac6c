/-! CATCHES: calls of methods that may throw, handlers, the law's own catching methods -/
section CAT
variable {p : Program} {l : Launch} {e : Env} {R : Room} {s : State} {m : MethodId} {args : Array Value} {below : List Frame} {meth : Method} {c : Code} {Q : State → Prop} {s0 : State} {a0 : Array Value} {G : GG} {cc : ByteArray} {own : String} {nL tg : Nat} {h0 h : AH} {bc bs pc n : Nat} {L : List (Option Value)} {st : List Value}
variable {a t d mc ms index maxL nA ci : Nat} {Qr : Option Value → AH → Prop} {Er : String → AH → Prop} {y : MethodName} {cy : ByteArray} {ret : Option FieldType} {C : String} {T : u_T} {N : Nat} {b : Nat} {As stk : List Value} {fs : List Value}
/-- an exception of the class E is under way, thrown by the call at pc -/
def AX (p : Program) (l : Launch) (e : Env) (R : Room) (s : State) (m : MethodId) (args : Array Value) (below : List Frame) (meth : Method) (c : Code) (Q : State → Prop) (s0 : State) (G : GG) (nL tg : Nat) (h0 h : AH) (bc bs pc : Nat) (L : List (Option Value)) (E : String) : Prop :=
  ∀ (H : Heap) (locs : List Loc) (cells slots : Nat) (ls : Array Slot) (rest : List Value) (q : Addr) (ce : Cell), Rep G s0.heap.size h H → FrT tg h0 h → va_S (fun q => s0.heap.size ≤ q) s.heap H locs → cells + bc ≤ R.cells → slots + bs ≤ R.slots → lv_has ls nL (asc L 0) → H[q]? = some ce → ce.vm = .none → s.vm.findClass E = some ce.cls →
    vx_W p l e R s m args below meth c H locs cells slots Q (F0 m pc ls rest) q
theorem ax_after {H : Heap} {locs : List Loc} {cells slots : Nat} {ls : Array Slot} {rest st0 : List Value} {av : Array Value} (hr : vx_Run p l e R s m args below meth c H locs cells slots mc ms (F0 m pc ls st0) rest (cQc s0 G tg h Qr av) (xXC s0 G tg h Er) (fun q => s0.heap.size ≤ q)) (f : FrT tg h0 h) (z : va_S (fun q => s0.heap.size ≤ q) s.heap H locs) (hc : cells + (bc + mc) ≤ R.cells) (hs : slots + (bs + ms) ≤ R.slots) (hl : lv_has ls nL (asc L 0))
    (kk : ∀ (r : Option Value) (h2 : AH), Qr r h2 → FrT tg h h2 → AW p l e R s m args below meth c Q s0 G nL tg h0 h2 bc bs (pc + 3) L (r.toList ++ rest))
    (kx : ∀ (E : String) (h2 : AH), Er E h2 → FrT tg h h2 → AX p l e R s m args below meth c Q s0 G nL tg h0 h2 bc bs pc L E) : W p l e R s m args below meth c H locs cells slots Q (F0 m pc ls st0) := by
  intro T hT X
  rcases hr T hT X with ⟨v, st₀, t, T', L9, e0, X', hL, e1, e2, ⟨⟨r, h2, hv, hq, hF, hR⟩, hz, hk⟩, st⟩ | ⟨q, st₀, t, T', L9, E, ce, e0, X', hL, e1, e2, ⟨h2, hq, hF, hR, hz, hk⟩, hce, hcv, hcl, st⟩
  · cases hv
    rw [e0] at hz hk
    have hz9 : va_S (fun q => s0.heap.size ≤ q) s.heap T'.heap (locs ++ L9) := ⟨Nat.le_trans z.1 (by rw [e1]; exact hz), fun q h1 h2 => by rw [e1, hk q (Nat.lt_of_lt_of_le h1 z.1) h2]; exact z.2.1 q h1 h2, fun q hq => by
        rcases List.mem_append.mp hq with h | h
        · exact z.2.2 q h
        · exact hL q h⟩
    obtain ⟨t2, a1, b1⟩ := kk v h2 hq hF T'.heap (locs ++ L9) (cells + mc) (slots + ms) ls (by rw [e1]; exact hR) (f.trans hF) hz9 (by omega) (by omega) hl T' rfl X'
    exact ⟨t2, st t2 a1, b1⟩
  · rw [e0] at hz hk
    have hz9 : va_S (fun q => s0.heap.size ≤ q) s.heap T'.heap (locs ++ L9) := ⟨Nat.le_trans z.1 (by rw [e1]; exact hz), fun q h1 h2 => by rw [e1, hk q (Nat.lt_of_lt_of_le h1 z.1) h2]; exact z.2.1 q h1 h2, fun q hq => by
        rcases List.mem_append.mp hq with h | h
        · exact z.2.2 q h
        · exact hL q h⟩
    obtain ⟨t2, a1, b1⟩ := kx E h2 hq hF T'.heap (locs ++ L9) (cells + mc) (slots + ms) ls rest q ce (by rw [e1]; exact hR) (f.trans hF) hz9 (by omega) (by omega) hl (by rw [e1]; exact hce) hcv hcl T' rfl X'
    exact ⟨t2, st.trans a1, b1⟩
theorem aw_callVX (X : MX p l s m meth c s0 a0 G cc own nL) (hd : decode cc pc = .ok (.invokevirtual index, 3)) (hn : pc + 3 = n) (hcon : ConX l s0 G y cy maxL ret d mc ms tg (.ref b :: As) h Qr Er) (hm : CM y cy maxL ret nA ∧ TW (.instanceMethod y) ∧ TW (.selects C y y)) (hl9 : TW (.methodLink own index y)) (hci : vwCl[ci]? = some (C, T, N)) (hh : h b = some (t, .inr (ci, fs))) (hst : stk = As.reverse ++ .ref b :: st) (hA : As.length = nA) (hcat : (st.map fun v => v.category).sum ≤ 8) (hR : DR R d maxL)
    (k : ∀ (r : Option Value) (h2 : AH), Qr r h2 → FrT tg h h2 → AW p l e R s m args below meth c Q s0 G nL tg h0 h2 bc bs n L (r.toList ++ st))
    (kx : ∀ (E : String) (h2 : AH), Er E h2 → FrT tg h h2 → AX p l e R s m args below meth c Q s0 G nL tg h0 h2 bc bs pc L E) : AW p l e R s m args below meth c Q s0 G nL tg h0 h (bc + mc) (bs + ms) pc L stk := by
  intro H locs cells slots ls r f z hc hs hl
  subst hst
  exact ax_after (vx_runV (C := C) (As := As) (rest := st) ⟨X.2.1, X.2.2.1, X.2.2.2.1, X.2.2.2.2.1, fun w (hw : w ∈ ([] : List Cond)) => nomatch hw⟩ hcon ⟨X.callB hm.1 hl9 hR, X.tw hm.2.1, X.tw hm.2.2⟩ ⟨cPc.blind, X.recv r hh hci, X.pre r z⟩ rfl hA hl.1 rfl (lv_room hcat) hd ⟨by omega, by omega⟩) f z hc hs hl (by rw [hn]; exact k) kx
/-- the exceptions' classes are no kinds of one another -/
def NX (s0 : State) : Prop := va_Nc eS eA s0 ∧ va_Nc eI eA s0 ∧ va_Nc eA eS s0 ∧ va_Nc eI eS s0 ∧ va_Nc eA eI s0 ∧ va_Nc eS eI s0
theorem MX.nc (X : MX p l s m meth c s0 a0 G cc own nL) {E F : String} (h : va_Nc E F s0) : va_Nc E F s := va_Nc.moved X.2.2.2.2.2.1.1.alike h
theorem aw_catch (X : MX p l s m meth c s0 a0 G cc own nL) {E name : String} (pre : List ExceptionTableEntry) (x : ExceptionTableEntry) (suf : List ExceptionTableEntry) (hsplit : c.exceptionTable.toList = pre ++ x :: suf) (hpass : ∀ z ∈ pre, z.catchType ≠ 0 ∧ ∃ nm : String, TW (.classLink own z.catchType nm) ∧ va_Nc E nm s0) (hx : covers x pc = true) (h9 : x.catchType ≠ 0) (hlink : TW (.classLink own x.catchType name)) (hcast : (Cond.castable E name) ∈ lw_tbl) (hn : x.handlerPc = n)
    (k : ∀ q : Nat, AW p l e R s m args below meth c Q s0 G nL tg h0 h bc bs n L [.ref q]) : AX p l e R s m args below meth c Q s0 G nL tg h0 h bc bs pc L E := by
  intro H locs cells slots ls rest q ce r f z hc hs hl hce hcv hcl
  refine vx_catch X.2.2.2.2.1 pre x suf hsplit (fun z hz => Or.inr ?_) hx h9 (X.tw hlink) (X.wd hcast rfl) hce hcv hcl ?_
  · obtain ⟨h1, nm, h2, h3⟩ := hpass z hz
    exact ⟨h1, nm, X.tw h2, X.nc h3⟩
  · rw [hn]
    exact k q H locs cells slots ls r f z hc hs hl
/-- a contract of a method with handlers -/
def ConH (l : Launch) (s0 : State) (G : GG) (y : MethodName) (cy : ByteArray) (maxL : Nat) (ret : Option FieldType) (hh : List (Nat × Nat × Nat × Nat)) (d mc ms tg : Nat) (av : List Value) (h : AH) (Qr : Option Value → AH → Prop) : Prop :=
  Met l y [Cond.codeWith y cy maxL ret hh] (rmv d mc ms) (cPc s0 G av h) (cQc s0 G tg h Qr) mc ms (fun q => s0.heap.size ≤ q)
theorem ConH.of {cy : ByteArray} {hh : List (Nat × Nat × Nat × Nat)} {av : List Value} (X : CX l s0 a0 G) (hy : plainName y.cls = true) (L0 : List (Option Value)) (hL : asc L0 0 = lv_args 0 av) (hlen : (lg_sl av).length ≤ maxL)
    (body : ∀ (p : Program) (e : Env) (s : State) (m : MethodId) (below : List Frame) (meth : Method) (c : Code), MX p l s m meth c s0 a0 G cy y.cls maxL → meth.name = y.name → meth.sig.returnType = ret → c.exceptionTable.toList = tableOf hh →
      AW p l e (rmv d mc ms) s m av.toArray below meth c (MQ below (cQc s0 G tg h Qr) av.toArray s mc ms (fun q => s0.heap.size ≤ q)) s0 G maxL tg h h mc ms 0 L0 []) : ConH l s0 G y cy maxL ret hh d mc ms tg av h Qr := by
  unfold ConH Met
  refine MetFree.of_bodyS (code := cy) (maxLocals := maxL) (ret := ret) hy ?_ ?_
  · intro args s m h hn
    obtain ⟨m9, meth, c, hn9, h1, h2, h3, h4, -, h5, h6, -⟩ := Cond.codeWith_spec (atoms_spec (ws := [Cond.codeWith y cy maxL ret hh]) h _ List.mem_cons_self)
    cases hn.symm.trans hn9
    exact ⟨meth, c, h1, h2, h3, h4, h5, h6⟩
  · intro p e s m args below meth c s₁ B hml hP _
    have hh0 : s₁.heap = s.heap := by rw [B.state]; rfl
    have hE := vx_table (x := y) B (atoms_spec (ws := [Cond.codeWith y cy maxL ret hh]) B.pre _ List.mem_cons_self)
    obtain ⟨rfl, hat, hrep⟩ := hP
    have hown : s.vm.findClass y.cls = some m.cls := findClass_of_methodNamed B.named
    have hMX : MX p l s m meth c s0 a0 G cy y.cls maxL := ⟨X, B.exec, B.bytes, hml, hown, hat, B.notSynchronized⟩
    have hl := lv_entry av (n := maxL) hlen
    rw [← hL] at hl
    have K := body p e s m below meth c hMX (name_of_methodNamed B.named B.method).1 B.returns hE s.heap [] 0 0 _ hrep FrT.rf va_S.rf (Nat.le_of_eq (Nat.zero_add _)) (Nat.le_of_eq (Nat.zero_add _)) hl
    rw [← lg_entry_eq] at K
    obtain ⟨t, a1, o, b1, b2, b3⟩ := K s₁ hh0 (Stand.of_body B)
    exact ⟨t, o, a1, b1, b2, b3⟩
/-- a method with handlers, as the tables have it -/
def CMH (y : MethodName) (cy : ByteArray) (maxL : Nat) (ret : Option FieldType) (hh : List (Nat × Nat × Nat × Nat)) (nA : Nat) : Prop := TW (.codeWith y cy maxL ret hh) ∧ TW (.initialized y.cls) ∧ (y.cls ≠ "java/lang/invoke/MethodHandle" ∧ y.cls ≠ "java/lang/invoke/VarHandle") ∧ (parseMethodDescriptor y.desc).map (fun d => d.parameters.length) = some nA ∧ TW (.static y)
theorem aw_callSH (X : MX p l s m meth c s0 a0 G cc own nL) {hh : List (Nat × Nat × Nat × Nat)} (hd : decode cc pc = .ok (.invokestatic index, 3)) (hn : pc + 3 = n) (hcon : ConH l s0 G y cy maxL ret hh d mc ms tg As h Qr) (hm : CMH y cy maxL ret hh nA) (hl9 : TW (.methodLink own index y)) (hst : stk = As.reverse ++ st) (hA : As.length = nA) (hcat : (st.map fun v => v.category).sum ≤ 8) (hR : DR R d maxL)
    (k : ∀ (r : Option Value) (h2 : AH), Qr r h2 → FrT tg h h2 → AW p l e R s m args below meth c Q s0 G nL tg h0 h2 bc bs n L (r.toList ++ st)) : AW p l e R s m args below meth c Q s0 G nL tg h0 h (bc + mc) (bs + ms) pc L stk := by
  intro H locs cells slots ls r f z hc hs hl
  subst hst
  refine aw_after (vx_runSW (hh := hh) (As := As) (rest := st) ⟨X.2.1, X.2.2.1, X.2.2.2.1, X.2.2.2.2.1, fun w (hw : w ∈ ([] : List Cond)) => nomatch hw⟩ hcon ⟨⟨rfl, rfl, hR.1, hR.2, fun w hw a' U hW => ?_, List.mem_cons_self⟩, X.tw hm.1, X.tw hm.2.1, hm.2.2.1, fun sig h => ?_, X.tw hl9, X.tw hm.2.2.2.2⟩ ⟨cPc.blind, X.pre r z⟩ rfl hA hl.1 rfl (lv_room hcat) hd ⟨by omega, by omega⟩) f z hc hs hl (by rw [hn]; exact k)
  · rw [List.mem_singleton.mp hw]
    exact word_at hW (good_of_word hm.1.2) (X.tw (args := #[]) hm.1)
  · have h2 := hm.2.2.2.1
    rw [h] at h2
    exact (Option.some.inj h2).symm
end CAT

