/-! THROWS: contracts of methods that return or throw -/
def okW : Cond → Bool
  | .castable _ _ => true
  | .declares _ => true
  | w => goodWord w
section THR
variable {p : Program} {l : Launch} {e : Env} {s : State} {m : MethodId} {args : Array Value} {below : List Frame} {meth : Method} {c : Code} {s0 : State} {a0 : Array Value} {G : GG} {cc : ByteArray} {own : String} {nL tg : Nat} {h0 h : AH} {bc bs pc n : Nat} {L : List (Option Value)} {st : List Value}
theorem MX.wd (X : MX p l s m meth c s0 a0 G cc own nL) {w : Cond} (hw : w ∈ lw_tbl) (ok : okW w = true) : w.before args s = true := by
  have h1 := X.1.2.1 w hw
  cases w with
  | castable a b => exact va_Nw.use rfl (va_Nw.warmC X.2.2.2.2.2.1.1 (X.nw hw rfl))
  | declares x => exact va_Nw.use rfl (va_Nw.warmD X.2.2.2.2.2.1.1 (X.nw hw rfl))
  | _ => exact X.tw ⟨hw, ok⟩
/-- an exception of the class cls, made in the class own -/
def TH (own cls : String) (ik ic : Nat) (names : List String) : Prop := Bundle.fit cls = true ∧ (∀ n ∈ names, Bundle.fit n = true) ∧ TW (.classLink own ik cls) ∧ TW (.initialized cls) ∧ ((vx_atS own ic cls names).all fun w => lw_tbl.contains w && okW w) = true ∧ ((Cond.classLink own ik cls :: Cond.initialized cls :: vx_atS own ic cls names).all vx_ot) = true
def xXC (s0 : State) (G : GG) (tg : Nat) (h : AH) (Er : String → AH → Prop) : String → State → State → Prop := fun E st t => ∃ h2 : AH, Er E h2 ∧ FrT tg h h2 ∧ Rep G s0.heap.size h2 t.heap ∧ va_F (fun q => s0.heap.size ≤ q) st t
def ConX (l : Launch) (s0 : State) (G : GG) (y : MethodName) (cy : ByteArray) (maxL : Nat) (ret : Option FieldType) (d mc ms tg : Nat) (av : List Value) (h : AH) (Qr : Option Value → AH → Prop) (Er : String → AH → Prop) : Prop :=
  vx_Met l y [Cond.code y cy maxL ret] (rmv d mc ms) (cPc s0 G av h) (cQc s0 G tg h Qr) (xXC s0 G tg h Er) mc ms (fun q => s0.heap.size ≤ q)
theorem ConX.of {y : MethodName} {cy : ByteArray} {maxL : Nat} {ret : Option FieldType} {d mc ms tg : Nat} {av : List Value} {h : AH} {Qr : Option Value → AH → Prop} {Er : String → AH → Prop} (X : CX l s0 a0 G) (hy : plainName y.cls = true) (L0 : List (Option Value)) (hL : asc L0 0 = lv_args 0 av) (hlen : (lg_sl av).length ≤ maxL)
    (body : ∀ (p : Program) (e : Env) (s : State) (m : MethodId) (below : List Frame) (meth : Method) (c : Code), MX p l s m meth c s0 a0 G cy y.cls maxL → meth.name = y.name → meth.sig.returnType = ret → (∀ x ∈ c.exceptionTable.toList, False) →
      AW p l e (rmv d mc ms) s m av.toArray below meth c (vx_MQ below (cQc s0 G tg h Qr) (xXC s0 G tg h Er) av.toArray s mc ms (fun q => s0.heap.size ≤ q)) s0 G maxL tg h h mc ms 0 L0 []) : ConX l s0 G y cy maxL ret d mc ms tg av h Qr Er := by
  refine vx_ofW (cc := cy) (maxL := maxL) (ret := ret) hy rfl ?_
  intro p e s m args below meth c s₁ B hml hE hv
  obtain ⟨rfl, hat, hrep⟩ := hv
  have hown : s.vm.findClass y.cls = some m.cls := findClass_of_methodNamed B.named
  have hMX : MX p l s m meth c s0 a0 G cy y.cls maxL := ⟨X, B.exec, B.bytes, hml, hown, hat, B.notSynchronized⟩
  have hl := lv_entry av (n := maxL) hlen
  rw [lg_entry_eq]
  rw [← hL] at hl
  exact body p e s m below meth c hMX (name_of_methodNamed B.named B.method).1 B.returns hE s.heap [] 0 0 _ hrep FrT.rf va_S.rf (Nat.le_of_eq (Nat.zero_add _)) (Nat.le_of_eq (Nat.zero_add _)) hl
variable {d mc ms : Nat} {R : Room} {Qr : Option Value → AH → Prop} {Er : String → AH → Prop}
theorem aw_vx {Qc : Array Value → State → Outcome → State → Prop} {XC : String → State → State → Prop} {free : Addr → Prop} (k : AW p l e R s m args below meth c (MQ below Qc args s mc ms free) s0 G nL tg h0 h bc bs pc L st) : AW p l e R s m args below meth c (vx_MQ below Qc XC args s mc ms free) s0 G nL tg h0 h bc bs pc L st := fun H locs cells slots ls r f z hc hs hl => vx_ret (k H locs cells slots ls r f z hc hs hl)
theorem aw_throw (X : MX p l s m meth c s0 a0 G cc own nL) {cls text : String} {names : List String} {ik is ic : Nat} (hT : TH own cls ik ic names) (hstr : (own, is, text) ∈ strL) (hE : ∀ x ∈ c.exceptionTable.toList, False)
    (d0 : decode cc pc = .ok (.new ik, 3)) (d3 : decode cc (pc + 3) = .ok (.dup, 1)) (hd : (decode cc (pc + 4) = .ok (.ldc is, 2) ∧ decode cc (pc + 6) = .ok (.invokespecial ic, 3) ∧ decode cc (pc + 9) = .ok (.athrow, 1)) ∨ (decode cc (pc + 4) = .ok (.ldc_w is, 3) ∧ decode cc (pc + 7) = .ok (.invokespecial ic, 3) ∧ decode cc (pc + 10) = .ok (.athrow, 1)))
    (hfr : names.length + 3 < d) (hlo : (st.map fun v => v.category).sum + (13 * (names.length + 1) + 43) ≤ 32 * d) (hq : Er cls h) :
    AW p l e (rmv d mc ms) s m args below meth c (vx_MQ below (cQc s0 G tg h0 Qr) (xXC s0 G tg h0 Er) args s mc ms (fun q => s0.heap.size ≤ q)) s0 G nL tg h0 h (bc + 1) (bs + 6) pc L st := by
  intro H locs cells slots ls r f z hc hs hl
  obtain ⟨t1, t2, t3, t4, t5, t6⟩ := hT
  obtain ⟨sa, hsa⟩ := X.1.2.2.2.2.2.2.2.2.2.2 _ hstr
  have hk : ∀ q : Nat, q < s0.heap.size → ¬ s0.heap.size ≤ q → s.heap[q]? = s0.heap[q]? := fun q hq _ => X.2.2.2.2.2.1.2.1 q hq
  have hU := (vx_Zq.moved X.2.2.2.2.2.1.1.alike X.1.2.2.2.2.2.1).kept hk
  have hN := (vx_Zq.moved X.2.2.2.2.2.1.1.alike X.1.2.2.2.2.2.2.1).kept hk
  have hat : ∀ w ∈ vx_atS own ic cls names, w.before args s = true := fun w hw => by
    have h9 := List.all_eq_true.mp t5 w hw
    rw [Bool.and_eq_true] at h9
    exact X.wd (List.contains_iff_mem.mp h9.1) h9.2
  have hc9 : cells + 1 ≤ mc := by
    have : cells + (bc + 1) ≤ mc := hc
    omega
  have hs9 : slots + 6 ≤ ms := by
    have : slots + (bs + 6) ≤ ms := hs
    omega
  have hx : ∀ t : State, s.vm.Alike t.vm → H.size ≤ t.heap.size → (∀ q : Nat, q < H.size → t.heap[q]? = H[q]?) → xXC s0 G tg h0 Er cls s t := fun t _ h1 h2 => ⟨h, hq, f, fun a t9 x e9 => r.kpt e9 (h2 a (r.lt e9)), ⟨Nat.le_trans z.1 h1, fun q q1 q2 => (h2 q (Nat.lt_of_lt_of_le q1 z.1)).trans (z.2.1 q q1 q2)⟩⟩
  rcases hd with ⟨d4, d6, d9⟩ | ⟨d4, d6, d9⟩
  · exact vx_throwS (text := text) X.2.1 X.2.2.1 X.1.1 X.2.2.2.2.1 t1 t2 (X.tw t3) (X.tw t4) (vk_R.warm X.2.2.2.2.2.1.1 hsa) hat (fun w hw => List.all_eq_true.mp t6 w hw) hU hN z (hl.1.trans X.2.2.2.1.symm) d0 d3 d4 d6 d9 (fun x hx => (hE x hx).elim) hfr hlo hc9 hs9 X.2.2.2.2.2.2 hx z.2.2 hc9 hs9
  · exact vx_throwSW (text := text) X.2.1 X.2.2.1 X.1.1 X.2.2.2.2.1 t1 t2 (X.tw t3) (X.tw t4) (vk_R.warm X.2.2.2.2.2.1.1 hsa) hat (fun w hw => List.all_eq_true.mp t6 w hw) hU hN z (hl.1.trans X.2.2.2.1.symm) d0 d3 d4 d6 d9 (fun x hx => (hE x hx).elim) hfr hlo hc9 hs9 X.2.2.2.2.2.2 hx z.2.2 hc9 hs9
end THR
abbrev eI : String := "java/lang/IndexOutOfBoundsException"
abbrev eA : String := "java/lang/IllegalArgumentException"
abbrev eS : String := "java/lang/IllegalStateException"
abbrev eN : List String := ["java/lang/RuntimeException", "java/lang/Exception"]

theorem th_eI : TH "Kelirnight" eI 91 95 eN := ⟨by decide +kernel, by decide +kernel, ⟨List.mem_of_getElem? (i := 137) (by decide +kernel), by decide +kernel⟩, ⟨List.mem_of_getElem? (i := 42) (by decide +kernel), by decide +kernel⟩, by decide +kernel, by decide +kernel⟩
theorem th_eA : TH "Kelirnight" eA 56 60 eN := ⟨by decide +kernel, by decide +kernel, ⟨List.mem_of_getElem? (i := 54) (by decide +kernel), by decide +kernel⟩, ⟨List.mem_of_getElem? (i := 33) (by decide +kernel), by decide +kernel⟩, by decide +kernel, by decide +kernel⟩
theorem th_eS : TH "Kelirnight" eS 73 77 eN := ⟨by decide +kernel, by decide +kernel, ⟨List.mem_of_getElem? (i := 173) (by decide +kernel), by decide +kernel⟩, ⟨List.mem_of_getElem? (i := 34) (by decide +kernel), by decide +kernel⟩, by decide +kernel, by decide +kernel⟩
