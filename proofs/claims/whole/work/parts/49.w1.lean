/-! THE LAW'S OWN: the row out, its catching methods' contracts, worlds side by side -/
section LAWB
variable {p : Program} {l : Launch} {e : Env} {R : Room} {s : State} {m : MethodId} {args : Array Value} {below : List Frame} {meth : Method} {c : Code} {Q : State → Prop} {s0 : State} {a0 : Array Value} {G : GG} {cc : ByteArray} {own : String} {nL tg : Nat} {h0 h : AH} {bc bs pc n : Nat} {L : List (Option Value)} {st : List Value}
variable {a t d mc ms index maxL nA ci : Nat} {Qr : Option Value → AH → Prop} {y : MethodName} {cy : ByteArray} {ret : Option FieldType} {As stk : List Value}
theorem FrT.oth {y : AC} (f : FrT tg h0 h) (e : h0 a = none) : FrT tg h0 (hu h a y) := ⟨fun b t z hb n => (hu_n (fun q => by rw [q, e] at hb; cases hb)).trans (f.1 b t z hb n), fun b hb => by
  by_cases q : b = a
  · rw [q, hu_s]
    exact fun z => by cases z
  · rw [hu_n q]
    exact f.2 b hb⟩
/-- the store without the cell o -/
def hide (o : Nat) (h : AH) : AH := fun b => if b = o then none else h b
theorem hide_o {o : Nat} {h : AH} : hide o h o = none := if_pos rfl
theorem hide_n {o b : Nat} {h : AH} (e : b ≠ o) : hide o h b = h b := if_neg e
theorem FrT_hide {o : Nat} : FrT tg (hide o h) h := ⟨fun b t x e _ => by
  by_cases q : b = o
  · rw [q, hide_o] at e; cases e
  · rw [hide_n q] at e; exact e, fun b e => by
  by_cases q : b = o
  · rw [q, hide_o] at e; exact absurd rfl e
  · rw [hide_n q] at e; exact e⟩
theorem FrT.unhide {o : Nat} {h2 : AH} (f : FrT tg h0 h) (e0 : h0 o = none) (g : FrT tg (hide o h) h2) : FrT tg h0 h2 := ⟨fun b t x e n => by
  have q : b ≠ o := fun z => by rw [z, e0] at e; cases e
  exact g.1 b t x (by rw [hide_n q]; exact f.1 b t x e n) n, fun b e => by
  have q : b ≠ o := fun z => by rw [z, e0] at e; exact e rfl
  exact g.2 b (by rw [hide_n q]; exact f.2 b e)⟩
theorem aw_lastO (X : MX p l s m meth c s0 a0 G cc own nL) {tz N : Nat} {g : Nat → Int64} {i : Int32} {x : Int64} (j : Nat) (hd : decode cc pc = .ok (.lastore, 1)) (hn : pc + 1 = n) (htz : tz ≠ 0) (h0a : h0 a = none) (hh : h a = some (tz, .inl (1, N, .inr (.inl g)))) (hj : i = nI j) (hlt : j < N) (hN : N < 2 ^ 31) (k : AW p l e R s m args below meth c Q s0 G nL tg h0 (hu h a (tz, .inl (1, N, .inr (.inl (vp_updL g j x))))) bc bs n L st) : AW p l e R s m args below meth c Q s0 G nL tg h0 h bc bs pc L (.long x :: .int i :: .ref a :: st) := by
  intro H locs cells slots ls r f z hc hs hl
  subst hj
  have hin := vp_in_nI hlt hN
  refine W.last X.2.1 X.2.2.1 (r.tg htz hh).1 ((X.kk.2 1 _ rfl).1 N (fun j => .long (g j))) (fun q => by cases q) (by show ¬ (nI j < 0 ∨ (arrV _ _ _).slots.size ≤ _); rw [arrV_size]; exact hin) rfl rfl hd fun H1 e z9 oq => ?_
  rw [hn]
  refine k H1 _ cells slots ls (r.put hh ?_ oq) (f.oth h0a) (z.put z9 oq ((r.tg htz hh).2 htz)) hc hs hl
  show H1[a]? = some (vp_cell _ _)
  rw [e]
  show some ((vp_cell _ _).setSlot _ _) = some (vp_cell _ _)
  rw [vp_cell_l, vp_cell_l, arrV_store, nI_clamp (by omega)]
  congr 2
  funext q
  by_cases hq : q = j
  · subst hq
    simp [updV, vp_updL]
  · simp [updV, vp_updL, hq]
/-- a contract of a method with handlers that writes into a cell of its caller's: the frame is held against the store hz -/
def ConO (l : Launch) (s0 : State) (G : GG) (y : MethodName) (cy : ByteArray) (maxL : Nat) (ret : Option FieldType) (hh : List (Nat × Nat × Nat × Nat)) (d mc ms tg : Nat) (av : List Value) (h hz : AH) (Qr : Option Value → AH → Prop) : Prop :=
  Met l y [Cond.codeWith y cy maxL ret hh] (rmv d mc ms) (cPc s0 G av h) (cQc s0 G tg hz Qr) mc ms (fun q => s0.heap.size ≤ q)
theorem ConO.of {hh : List (Nat × Nat × Nat × Nat)} {av : List Value} {hz : AH} (X : CX l s0 a0 G) (hy : plainName y.cls = true) (L0 : List (Option Value)) (hL : asc L0 0 = lv_args 0 av) (hlen : (lg_sl av).length ≤ maxL) (hF : FrT tg hz h)
    (body : ∀ (p : Program) (e : Env) (s : State) (m : MethodId) (below : List Frame) (meth : Method) (c : Code), MX p l s m meth c s0 a0 G cy y.cls maxL → meth.name = y.name → meth.sig.returnType = ret → c.exceptionTable.toList = tableOf hh →
      AW p l e (rmv d mc ms) s m av.toArray below meth c (MQ below (cQc s0 G tg hz Qr) av.toArray s mc ms (fun q => s0.heap.size ≤ q)) s0 G maxL tg hz h mc ms 0 L0 []) : ConO l s0 G y cy maxL ret hh d mc ms tg av h hz Qr := by
  unfold ConO Met
  refine MetFree.of_bodyS (code := cy) (maxLocals := maxL) (ret := ret) hy ?_ ?_
  · intro args s m h hn
    obtain ⟨m9, meth, c, hn9, h1, h2, h3, h4, -, h5, h6, -⟩ := Cond.codeWith_spec (atoms_spec (ws := [Cond.codeWith y cy maxL ret hh]) h _ List.mem_cons_self)
    cases hn.symm.trans hn9
    exact ⟨meth, c, h1, h2, h3, h4, h5, h6⟩
  · intro p e s m args below meth c s₁ B hml hP _
    have hh0 : s₁.heap = s.heap := by rw [B.state]; rfl
    have hE := vx_table (x := y) B (atoms_spec (ws := [Cond.codeWith y cy maxL ret hh]) B.pre _ List.mem_cons_self)
    obtain ⟨rfl, hat, hrep⟩ := hP
    have hown : s.vm.findClass y.cls = some m.cls := findClass_of_methodNamed B.named
    have hMX : MX p l s m meth c s0 a0 G cy y.cls maxL := ⟨X, B.exec, B.bytes, hml, hown, hat, B.notSynchronized⟩
    have hl := lv_entry av (n := maxL) hlen
    rw [← hL] at hl
    have K := body p e s m below meth c hMX (name_of_methodNamed B.named B.method).1 B.returns hE s.heap [] 0 0 _ hrep hF va_S.rf (Nat.le_of_eq (Nat.zero_add _)) (Nat.le_of_eq (Nat.zero_add _)) hl
    rw [← lg_entry_eq] at K
    obtain ⟨t, a1, o, b1, b2, b3⟩ := K s₁ hh0 (Stand.of_body B)
    exact ⟨t, o, a1, b1, b2, b3⟩
theorem aw_afterO {hz : AH} {H : Heap} {locs : List Loc} {cells slots : Nat} {ls : Array Slot} {rest st0 : List Value} {av : Array Value} (hr : va_Run p l e R s m args below meth c H locs cells slots mc ms (F0 m pc ls st0) rest (cQc s0 G tg hz Qr av) (fun q => s0.heap.size ≤ q)) (hfz : ∀ h2, FrT tg hz h2 → FrT tg h0 h2) (z : va_S (fun q => s0.heap.size ≤ q) s.heap H locs) (hc : cells + (bc + mc) ≤ R.cells) (hs : slots + (bs + ms) ≤ R.slots) (hl : lv_has ls nL (asc L 0))
    (kk : ∀ (r : Option Value) (h2 : AH), Qr r h2 → FrT tg hz h2 → AW p l e R s m args below meth c Q s0 G nL tg h0 h2 bc bs (pc + 3) L (r.toList ++ rest)) : W p l e R s m args below meth c H locs cells slots Q (F0 m pc ls st0) := by
  intro T hT X
  obtain ⟨v, st₀, t, T', L9, e0, X', hL, e1, e2, ⟨⟨r, h2, hv, hq, hF, hR⟩, hz, hk⟩, st⟩ := hr T hT X
  cases hv
  rw [e0] at hz hk
  have hz9 : va_S (fun q => s0.heap.size ≤ q) s.heap T'.heap (locs ++ L9) := ⟨Nat.le_trans z.1 (by rw [e1]; exact hz), fun q h1 h2 => by rw [e1, hk q (Nat.lt_of_lt_of_le h1 z.1) h2]; exact z.2.1 q h1 h2, fun q hq => by
      rcases List.mem_append.mp hq with h | h
      · exact z.2.2 q h
      · exact hL q h⟩
  obtain ⟨t2, a1, b1⟩ := kk v h2 hq hF T'.heap (locs ++ L9) (cells + mc) (slots + ms) ls (by rw [e1]; exact hR) (hfz h2 hF) hz9 (by omega) (by omega) hl T' rfl X'
  exact ⟨t2, st t2 a1, b1⟩
theorem aw_callSO (X : MX p l s m meth c s0 a0 G cc own nL) {hh : List (Nat × Nat × Nat × Nat)} {hz : AH} (hd : decode cc pc = .ok (.invokestatic index, 3)) (hn : pc + 3 = n) (hcon : ConO l s0 G y cy maxL ret hh d mc ms tg As h hz Qr) (hm : CMH y cy maxL ret hh nA) (hl9 : TW (.methodLink own index y)) (hst : stk = As.reverse ++ st) (hA : As.length = nA) (hcat : (st.map fun v => v.category).sum ≤ 8) (hR : DR R d maxL) (hfz : FrT tg h0 h → ∀ h2, FrT tg hz h2 → FrT tg h0 h2)
    (k : ∀ (r : Option Value) (h2 : AH), Qr r h2 → FrT tg hz h2 → AW p l e R s m args below meth c Q s0 G nL tg h0 h2 bc bs n L (r.toList ++ st)) : AW p l e R s m args below meth c Q s0 G nL tg h0 h (bc + mc) (bs + ms) pc L stk := by
  intro H locs cells slots ls r f z hc hs hl
  subst hst
  refine aw_afterO (vx_runSW (hh := hh) (As := As) (rest := st) ⟨X.2.1, X.2.2.1, X.2.2.2.1, X.2.2.2.2.1, fun w (hw : w ∈ ([] : List Cond)) => nomatch hw⟩ hcon ⟨⟨rfl, rfl, hR.1, hR.2, fun w hw a' U hW => ?_, List.mem_cons_self⟩, X.tw hm.1, X.tw hm.2.1, hm.2.2.1, fun sig h => ?_, X.tw hl9, X.tw hm.2.2.2.2⟩ ⟨cPc.blind, X.pre r z⟩ rfl hA hl.1 rfl (lv_room hcat) hd ⟨by omega, by omega⟩) (hfz f) z hc hs hl (by rw [hn]; exact k)
  · rw [List.mem_singleton.mp hw]
    exact word_at hW (good_of_word hm.1.2) (X.tw (args := #[]) hm.1)
  · have h2 := hm.2.2.2.1
    rw [h] at h2
    exact (Option.some.inj h2).symm
/-- where only cells of the tag 0 are held, the tag of the maker is no matter -/
theorem aw_tg {tg2 : Nat} (hz0 : ∀ b t x, h0 b = some (t, x) → t = 0) (h1 : tg ≠ 0) (k : AW p l e R s m args below meth c Q s0 G nL tg2 h0 h bc bs pc L st) : AW p l e R s m args below meth c Q s0 G nL tg h0 h bc bs pc L st := fun H locs cells slots ls r f z hc hs hl => k H locs cells slots ls r ⟨fun b t x e9 n9 => f.1 b t x e9 (fun q => h1 (by rw [← q]; exact hz0 b t x e9)), f.2⟩ z hc hs hl
end LAWB
theorem tag_ne {h : AH} {a b t u : Nat} {x y : AE} (e : h a = some (t, x)) (e2 : h b = some (u, y)) (n : t ≠ u) : a ≠ b := fun q => by
  rw [q, e2] at e
  exact n (congrArg Prod.fst (Option.some.inj e)).symm
theorem LI.tagK {G : GG} {h h2 : AH} {tg L n ed cap : Nat} {g : Nat → Option Nat} {md : Int32} (w : LI G h tg L n g ed cap md) (hk : ∀ a x, h a = some (tg, x) → h2 a = some (tg, x)) (hz : h2 (G.2.2 0) = h (G.2.2 0)) : LI G h2 tg L n g ed cap md := by
  refine w.kept ((hk _ _ w.1).trans w.1.symm) ?_
  rcases w.2.2.2 with ⟨-, e2, -, -⟩ | ⟨-, e2⟩
  · rw [e2]; exact hz
  · exact (hk _ _ e2).trans e2.symm
theorem KelW.tagK {G : GG} {h h2 : AH} {tg ke : Nat} {A : KA} {σ : NS} (w : KelW G h tg ke A σ) (hk : ∀ a x, h a = some (tg, x) → h2 a = some (tg, x)) (hz : h2 (G.2.2 0) = h (G.2.2 0)) : KelW G h2 tg ke A σ := by
  obtain ⟨h1, ⟨p1, p2, p3, p4, p5, p6⟩, ⟨q1, q2, q3, q4⟩, h4, h5⟩ := w
  exact ⟨hk _ _ h1, ⟨hk _ _ p1, p2.tagK hk hz, p3.tagK hk hz, fun i hi => ⟨(p4 i hi).1, hk _ _ (p4 i hi).2⟩, fun i hi => ⟨(p5 i hi).1, hk _ _ (p5 i hi).2⟩, p6⟩, ⟨hk _ _ q1, q2.tagK hk hz, fun i hi => ⟨(q3 i hi).1, hk _ _ (q3 i hi).2⟩, q4⟩, hk _ _ h4, h5⟩
theorem MoW.tagK {G : GG} {h h2 : AH} {tg mo : Nat} {A : KA} {t : Int32} {sm : Int64} {σ : NS} (w : MoW G h tg mo A t sm σ) (hk : ∀ a x, h a = some (tg, x) → h2 a = some (tg, x)) (hz : h2 (G.2.2 0) = h (G.2.2 0)) : MoW G h2 tg mo A t sm σ := by
  obtain ⟨h1, ⟨a1, a2, a3⟩, ⟨b1, b2, b3⟩, h4⟩ := w
  exact ⟨hk _ _ h1, ⟨a1.tagK hk hz, a2.tagK hk hz, a3.tagK hk hz⟩, ⟨fun i hi => ⟨(b1 i hi).1, hk _ _ (b1 i hi).2⟩, fun i hi => ⟨(b2 i hi).1, hk _ _ (b2 i hi).2⟩, fun i hi => ⟨(b3 i hi).1, hk _ _ (b3 i hi).2⟩⟩, h4⟩
/-- the row out of one long -/
def oOut (g : Nat → Int64) : AE := .inl (1, 1, .inr (.inl g))
/-- the empty array -/
def EZ (G : GG) (h : AH) : Prop := h (G.2.2 0) = some (0, oArr 0 (fun _ => none)) ∧ h (G.2.2 1) = some (0, oArr 0 (fun _ => none))
theorem EZ.fr {G : GG} {h h2 : AH} {tg : Nat} (z : EZ G h) (f : FrT tg h h2) (n : tg ≠ 0) : EZ G h2 := ⟨f.1 _ _ _ z.1 n.symm, f.1 _ _ _ z.2 n.symm⟩
theorem KelW.out {G : GG} {h : AH} {ke out : Nat} {A : KA} {σ : NS} {g : Nat → Int64} {c : AC} (w : KelW G h 1 ke A σ) (z : EZ G h) (ho : h out = some (3, oOut g)) : KelW G (hu h out c) 1 ke A σ := w.tagK (fun a x e => (hu_n (tag_ne e ho (by decide))).trans e) (hu_n (tag_ne z.1 ho (by decide)))
/-- what the law's catching methods leave: 0 and the answer in out, or the refusal's number -/
def PoW (G : GG) (ke out : Nat) (R : Rs) (v : Int64) : Option Value → AH → Prop := fun r h2 => some (.int (nI R.1)) = r ∧ (∃ A2, KelW G h2 1 ke A2 R.2.2) ∧ ∃ g : Nat → Int64, h2 out = some (3, oOut g) ∧ (R.1 = 0 → g 0 = v)
theorem PoW.no {G : GG} {h : AH} {ke out : Nat} {R : Rs} {v : Int64} {A : KA} {σ : NS} {g : Nat → Int64} {k : Nat} {x : Int32} (hk : R.1 = k) (hx : nI k = x) (e1 : R.2.2 = σ) (e2 : R.1 ≠ 0) (w : KelW G h 1 ke A σ) (ho : h out = some (3, oOut g)) : PoW G ke out R v (some (.int x)) h := ⟨by rw [hk, hx], ⟨A, by rw [e1]; exact w⟩, g, ho, fun z => absurd z e2⟩
theorem PoW.yes {G : GG} {h2 : AH} {ke out : Nat} {R : Rs} {v x : Int64} {A : KA} {g : Nat → Int64} (e1 : R.1 = 0) (hx : x = v) (w : KelW G h2 1 ke A R.2.2) (z : EZ G h2) (ho : h2 out = some (3, oOut g)) : PoW G ke out R v (some (.int 0)) (hu h2 out (3, oOut (vp_updL g 0 x))) := ⟨by rw [e1]; rfl, ⟨A, w.out z ho⟩, _, hu_s, fun _ => pk_uLs.trans hx⟩
