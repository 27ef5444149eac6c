/-! rows over the store: fields, arrays, new things -/
theorem va_P1 {D : va_G} {cl : List vw_C} {q : Nat × va_E} {H : Heap} (h : va_at D cl q H) : va_P D cl [q] H := by
  intro k x hx
  have hz : k < 1 := (List.getElem?_eq_some_iff.mp hx).1
  rw [show k = 0 by omega] at hx
  cases hx
  exact h
/-- a class's fields, as the tables have them -/
def FT (ci : Nat) (C : String) (T : u_T) (N : Nat) : Prop := vwCl[ci]? = some (C, T, N) ∧ (∀ w ∈ u_ws C T N, TW w) ∧ (∃ ty : Nat → FieldType, ∀ k, k < N → parseFieldDescriptor (T k).2.2.1 = some (ty k)) ∧ ∀ a, a < N → ∀ b, b < N → a ≠ b → (T a).2.1 ≠ (T b).2.1
/-- a field link of a class file: field k of the class ci -/
def FD (own : String) (index ci k : Nat) (ty : FieldType) : Prop := ∃ (C : String) (T : u_T) (N : Nat) (ref : String), FT ci C T N ∧ k < N ∧ TW (.fieldLink own index ref (T k).2.1 (T k).2.2.1) ∧ (ref = (T k).1 ∨ TW (.sameField ref (T k).1 (T k).2.1 (T k).2.2.1)) ∧ parseFieldDescriptor (T k).2.2.1 = some ty
/-- .. that may be written by any method -/
def FW (ci k : Nat) : Prop := ∃ (C : String) (T : u_T) (N : Nat), vwCl[ci]? = some (C, T, N) ∧ (T k).2.2.2 = false
/-- .. that its class's constructor writes -/
def FI (own : String) (ci k : Nat) : Prop := ∃ (C : String) (T : u_T) (N : Nat), vwCl[ci]? = some (C, T, N) ∧ (T k).2.2.2 = true ∧ (T k).1 = own
/-- a class link whose class is made with N fields of these values -/
def FN (own : String) (index ci N : Nat) (fs : List Value) : Prop := ∃ (C : String) (T : u_T) (ty : Nat → FieldType), FT ci C T N ∧ TW (.classLink own index C) ∧ TW (.instantiable C N) ∧ TW (.initialized C) ∧ (∀ k, k < N → parseFieldDescriptor (T k).2.2.1 = some (ty k)) ∧ ∀ j, j < N → defaultValue (ty j) = vp_V fs j
theorem hu_hu {h : AH} {a : Nat} {x y : AC} : hu (hu h a x) a y = hu h a y := by
  funext b
  by_cases q : b = a
  · rw [q, hu_s, hu_s]
  · rw [hu_n q, hu_n q, hu_n q]

section AWH
variable {p : Program} {l : Launch} {e : Env} {R : Room} {s : State} {m : MethodId} {args : Array Value} {below : List Frame} {meth : Method} {c : Code} {Q : State → Prop} {s0 : State} {a0 : Array Value} {G : GG} {cc : ByteArray} {own : String} {nL tg : Nat} {h0 h : AH} {bc bs pc n : Nat} {L : List (Option Value)} {st : List Value}
variable {a t : Nat}
theorem MX.same (X : MX p l s m meth c s0 a0 G cc own nL) {ref C nm d : String} (hs : ref = C ∨ TW (.sameField ref C nm d)) : ∀ x, s.fieldFound? C nm d = some x → s.fieldFound? ref nm d = some x := fun x hx => hs.elim (fun e => by rw [e]; exact hx) (fun t => u_same (X.tw (args := #[]) t) x hx)
theorem aw_get (X : MX p l s m meth c s0 a0 G cc own nL) {index ci fi : Nat} {ty : FieldType} {fs : List Value} {v : Value} (hf : FD own index ci fi ty) (hd : decode cc pc = .ok (.getfield index, 3)) (hn : pc + 3 = n) (hh : h a = some (t, .inr (ci, fs))) (hv : fs[fi]? = some v) (k : AW p l e R s m args below meth c Q s0 G nL tg h0 h bc bs n L (v :: st)) : AW p l e R s m args below meth c Q s0 G nL tg h0 h bc bs pc L (.ref a :: st) := by
  intro H locs cells slots ls r f z hc hs hl
  obtain ⟨C, T, N, ref, h1, h2, h3, h4, -⟩ := hf
  exact va_get (D := G.1) (ci := ci) (C := C) (T := T) (N := N) (Ts := u_ws C T N) X.2.1 X.2.2.1 (fun w hw => X.tw (h1.2.1 w hw)) (fun _ q => q) X.2.2.2.2.1 X.kk (va_P1 (r.o hh).1) 0 rfl h1.1 fi h2 (X.tw h3) (X.same h4) hv hd (by rw [hn]; exact k H locs cells slots ls r f z hc hs hl)
theorem aw_put (X : MX p l s m meth c s0 a0 G cc own nL) {index ci fi : Nat} {ty : FieldType} {fs : List Value} {v : Value} (hf : FD own index ci fi ty) (hw : FW ci fi) (hd : decode cc pc = .ok (.putfield index, 3)) (hn : pc + 3 = n) (htg : tg ≠ 0) (hh : h a = some (tg, .inr (ci, fs))) (hnar : narrow ty v = v) (hfit : fits ty v = true) (hlen : fi < fs.length) (k : AW p l e R s m args below meth c Q s0 G nL tg h0 (hu h a (tg, .inr (ci, fs.set fi v))) bc bs n L st) : AW p l e R s m args below meth c Q s0 G nL tg h0 h bc bs pc L (v :: .ref a :: st) := by
  intro H locs cells slots ls r f z hc hs hl
  obtain ⟨C, T, N, ref, ⟨h1, h1w, ⟨ty0, hty⟩, hnm⟩, h2, h3, h4, h5⟩ := hf
  obtain ⟨C', T', N', g1, hfin⟩ := hw
  cases Option.some.inj (g1.symm.trans h1)
  have hts : ∀ w ∈ u_ws C T N, w.before args s = true := fun w hw => X.tw (h1w w hw)
  have hap := va_apart (own := own) hts (fun _ q => q) ty0 hty hnm X.kk h1
  obtain ⟨rr, h9, cell, q1, q2, q3, q4⟩ := (r.o hh).1
  have hr : rr = (C, T, N) := Option.some.inj (h9.symm.trans h1)
  subst hr
  obtain ⟨hS, hfc, kC, hkC, hkind⟩ := X.kk.1 ci _ h1
  obtain ⟨cf, kf, i9, f9, hi, hsl⟩ := hS fi h2
  have hlay := hts _ (u_in_lay h2)
  unfold u_lay at hlay
  rw [if_neg (by rw [hfin]; decide)] at hlay
  have hst := (u_facts hfc hkC (u_lays hts (fun _ q => q) h2) hi).1
  have h6 := u_store hfc hkC hkind hlay hi h5 hnar hfit
  refine W.putK X.2.1 X.2.2.1 (f := f9) ⟨X.2.2.2.2.1, X.tw h3, ⟨_, _, _, X.same h4 _ hi⟩, hst⟩ (by rw [q2]; exact h6) q1 q3 (by rw [hsl]; exact k2_hasslot (q4 fi h2)) rfl rfl hd fun H' e1 e2 e3 => ?_
  rw [hsl] at e1 ⊢
  rw [hn]
  exact k H' _ cells slots ls (r.put hh ⟨_, h1, t_OB.to (V := updV (vp_V fs) fi v) ⟨_, e1, q2, q3, t_set q4 hap h2 v⟩ (fun j _ => vp_updV_set hlen v j)⟩ e3) (f.put hh) (z.put e2 e3 ((r.o hh).2 htg)) hc hs hl
theorem aw_putF (X : MX p l s m meth c s0 a0 G cc own nL) {index ci fi : Nat} {ty : FieldType} {fs : List Value} {v : Value} (hf : FD own index ci fi ty) (hw : FI own ci fi) (hin : meth.name = "<init>") (hd : decode cc pc = .ok (.putfield index, 3)) (hn : pc + 3 = n) (htg : tg ≠ 0) (hh : h a = some (tg, .inr (ci, fs))) (hnar : narrow ty v = v) (hfit : fits ty v = true) (hlen : fi < fs.length) (k : AW p l e R s m args below meth c Q s0 G nL tg h0 (hu h a (tg, .inr (ci, fs.set fi v))) bc bs n L st) : AW p l e R s m args below meth c Q s0 G nL tg h0 h bc bs pc L (v :: .ref a :: st) := by
  intro H locs cells slots ls r f z hc hs hl
  obtain ⟨C, T, N, ref, ⟨h1, h1w, ⟨ty0, hty⟩, hnm⟩, h2, h3, h4, h5⟩ := hf
  obtain ⟨C', T', N', g1, hfin, hdecl⟩ := hw
  cases Option.some.inj (g1.symm.trans h1)
  have hts : ∀ w ∈ u_ws C T N, w.before args s = true := fun w hw => X.tw (h1w w hw)
  have hap := va_apart (own := own) hts (fun _ q => q) ty0 hty hnm X.kk h1
  obtain ⟨rr, h9, cell, q1, q2, q3, q4⟩ := (r.o hh).1
  have hr : rr = (C, T, N) := Option.some.inj (h9.symm.trans h1)
  subst hr
  obtain ⟨hS, hfc, kC, hkC, hkind⟩ := X.kk.1 ci _ h1
  obtain ⟨cf, kf, i9, f9, hi, hsl⟩ := hS fi h2
  have hlay := hts _ (u_in_lay h2)
  unfold u_lay at hlay
  rw [if_pos hfin] at hlay
  have hst := (u_facts hfc hkC (u_lays hts (fun _ q => q) h2) hi).1
  have hcf : m.cls = cf := by
    obtain ⟨_, _, c', _, _, _, -, -, hf', -, -, -, hown2, -⟩ := Cond.laysFinal_spec hlay
    have e1 : c' = cf := by have := hi.symm.trans hf'; simp at this; exact this.1.symm
    rw [hdecl] at hown2
    rw [← e1]; exact Option.some.inj (X.2.2.2.2.1.symm.trans hown2)
  have h6 := u_fits hfc hkC hkind (Or.inr hlay) hi h5 hnar hfit
  refine W.putFinK X.2.1 X.2.2.1 X.2.2.2.2.1 (X.tw h3) (X.same h4 _ hi) hst hcf hin (by rw [q2]; exact h6) q1 q3 (by rw [hsl]; exact k2_hasslot (q4 fi h2)) rfl rfl hd fun H' e1 e2 e3 => ?_
  rw [hsl] at e1 ⊢
  rw [hn]
  exact k H' _ cells slots ls (r.put hh ⟨_, h1, t_OB.to (V := updV (vp_V fs) fi v) ⟨_, e1, q2, q3, t_set q4 hap h2 v⟩ (fun j _ => vp_updV_set hlen v j)⟩ e3) (f.put hh) (z.put e2 e3 ((r.o hh).2 htg)) hc hs hl
theorem va_S.up {A : Nat → Prop} {H0 H H1 : Heap} {locs : List Loc} (z : va_S A H0 H locs) (hz : H.size ≤ H1.size) (o : ∀ q : Nat, q < H.size → H1[q]? = H[q]?) : va_S A H0 H1 locs := ⟨Nat.le_trans z.1 hz, fun q h1 h2 => (o q (Nat.lt_of_lt_of_le h1 z.1)).trans (z.2.1 q h1 h2), z.2.2⟩
theorem MX.big (X : MX p l s m meth c s0 a0 G cc own nL) {H : Heap} {locs : List Loc} (z : va_S (fun q => s0.heap.size ≤ q) s.heap H locs) : s0.heap.size ≤ H.size := Nat.le_trans X.2.2.2.2.2.1.2.2 z.1
theorem aw_new (X : MX p l s m meth c s0 a0 G cc own nL) {index ci N : Nat} {fs : List Value} (hf : FN own index ci N fs) (hd : decode cc pc = .ok (.new index, 3)) (hn : pc + 3 = n) (k : ∀ q : Nat, h q = none → AW p l e R s m args below meth c Q s0 G nL tg h0 (hu h q (tg, .inr (ci, fs))) bc bs n L (.ref q :: st)) : AW p l e R s m args below meth c Q s0 G nL tg h0 h (bc + 1) (bs + N) pc L st := by
  intro H locs cells slots ls r f z hc hs hl
  obtain ⟨C, T, ty, ⟨h1, h1w, -, hnm⟩, h3, h4, h5, hty, hfs⟩ := hf
  have hts : ∀ w ∈ u_ws C T N, w.before args s = true := fun w hw => X.tw (h1w w hw)
  have hKn := X.kk.1 ci _ h1
  refine W.newcK X.2.1 X.2.2.1 X.2.2.2.2.1 (X.tw h3) (X.tw h4) (X.tw h5) rfl hd (by omega) (by omega) hKn.2.1 rfl fun H1 kC hkC e1 z1 o1 => ?_
  rw [hn]
  exact k H.size r.fresh H1 _ _ _ ls (r.new (X.big z) ⟨_, h1, (u_born ty hts (fun _ q => q) hKn hkC e1 hty).to hfs⟩ o1) (f.new r.fresh) (z.up (by omega) o1) (by omega) (by omega) hl
theorem ty_at (G : GG) : (tyG G)[0]? = some (G.2.1 0, .int) ∧ (tyG G)[1]? = some (G.2.1 1, .int) ∧ (tyG G)[2]? = some (G.2.1 2, .int) ∧ (tyG G)[3]? = some (G.2.1 3, .object "java/lang/Object") := ⟨rfl, rfl, rfl, rfl⟩
theorem aw_iald (X : MX p l s m meth c s0 a0 G cc own nL) {N : Nat} {g : Nat → Int32} {i : Int32} (j : Nat) (hd : decode cc pc = .ok (.iaload, 1)) (hn : pc + 1 = n) (hh : h a = some (t, .inl (0, N, .inl g))) (hj : i = nI j) (hlt : j < N) (hN : N < 2 ^ 31) (k : AW p l e R s m args below meth c Q s0 G nL tg h0 h bc bs n L (.int (g j) :: st)) : AW p l e R s m args below meth c Q s0 G nL tg h0 h bc bs pc L (.int i :: .ref a :: st) := by
  intro H locs cells slots ls r f z hc hs hl
  subst hj
  refine va_iald X.2.1 X.2.2.1 X.kk (va_P1 (r.ar (Or.inl (show (0 : Nat) ≠ 3 by decide)) hh).1) 0 0 rfl rfl (vp_in_nI hlt hN) hd ?_
  rw [nI_clamp (by omega), hn]
  exact k H locs cells slots ls r f z hc hs hl
theorem aw_aald (X : MX p l s m meth c s0 a0 G cc own nL) {N : Nat} {g : Nat → Option Nat} {i : Int32} (j : Nat) {y : Nat} (hd : decode cc pc = .ok (.aaload, 1)) (hn : pc + 1 = n) (hh : h a = some (t, .inl (3, N, .inr (.inr (.inr (.inr g)))))) (hj : i = nI j) (hlt : j < N) (hN : N < 2 ^ 31) (hy : g j = some y) (k : AW p l e R s m args below meth c Q s0 G nL tg h0 h bc bs n L (.ref y :: st)) : AW p l e R s m args below meth c Q s0 G nL tg h0 h bc bs pc L (.int i :: .ref a :: st) := by
  intro H locs cells slots ls r f z hc hs hl
  subst hj
  refine va_aldq X.2.1 X.2.2.1 X.kk (va_P1 (r.ar (Or.inr (Nat.pos_iff_ne_zero.mp (Nat.zero_lt_of_lt hlt))) hh).1) 0 3 rfl rfl (vp_in_nI hlt hN) hd ?_
  rw [nI_clamp (by omega), hn, hy]
  exact k H locs cells slots ls r f z hc hs hl
theorem aw_iast (X : MX p l s m meth c s0 a0 G cc own nL) {N : Nat} {g : Nat → Int32} {i x : Int32} (j : Nat) (hd : decode cc pc = .ok (.iastore, 1)) (hn : pc + 1 = n) (htg : tg ≠ 0) (hh : h a = some (tg, .inl (0, N, .inl g))) (hj : i = nI j) (hlt : j < N) (hN : N < 2 ^ 31) (k : AW p l e R s m args below meth c Q s0 G nL tg h0 (hu h a (tg, .inl (0, N, .inl (upd g j x)))) bc bs n L st) : AW p l e R s m args below meth c Q s0 G nL tg h0 h bc bs pc L (.int x :: .int i :: .ref a :: st) := by
  intro H locs cells slots ls r f z hc hs hl
  subst hj
  have hin := vp_in_nI hlt hN
  refine W.iast X.2.1 X.2.2.1 (r.tg htg hh).1 ((X.kk.2 0 _ rfl).1 N (fun j => .int (g j))) (fun q => by cases q) (by show ¬ (nI j < 0 ∨ (arrV _ _ _).slots.size ≤ _); rw [arrV_size]; exact hin) rfl rfl hd fun H1 e z9 oq => ?_
  rw [hn]
  refine k H1 _ cells slots ls (r.put hh ?_ oq) (f.put hh) (z.put z9 oq ((r.tg htg hh).2 htg)) hc hs hl
  show H1[a]? = some (vp_cell _ _)
  rw [e]
  show some ((vp_cell _ _).setSlot _ _) = some (vp_cell _ _)
  rw [vp_cell_i, vp_cell_i, arrV_store, nI_clamp (by omega)]
  congr 2
  funext q
  by_cases hq : q = j
  · subst hq
    simp [updV, upd]
  · simp [updV, upd, hq]
/-- a cell whose class may lie in an Object[] -/
def OB (x : AE) : Prop := match x with
  | .inl y => y.1 < 4
  | .inr o => ∃ (C : String) (T : u_T) (N : Nat), vwCl[o.1]? = some (C, T, N) ∧ (Cond.castable C "java/lang/Object") ∈ lw_tbl
def nmA (k : Nat) : String := match k with | 0 => "[I" | 1 => "[I" | 2 => "[I" | _ => "[Ljava/lang/Object;"
theorem arr_nm {G : GG} {U : State} (K : va_K G.1 vwCl (tyG G) U) {k : Nat} (hk : k < 4) : U.vm.findClass (nmA k) = some (G.2.1 k) := by
  match k, hk with
  | 0, _ => exact (K.2 0 _ rfl).2
  | 1, _ => exact (K.2 1 _ rfl).2
  | 2, _ => exact (K.2 2 _ rfl).2
  | 3, _ =>
    obtain ⟨kA, comp, -, -, -, h4⟩ := (K.2 3 _ rfl).2
    exact h4
theorem MX.nw (X : MX p l s m meth c s0 a0 G cc own nL) {w : Cond} (hw : w ∈ lw_tbl) (ho : w.onTables = true) : va_Nw w s0 := va_Nw.of ho (X.1.2.1 w hw)
theorem arr_cls {G : GG} {U : State} (K : va_K G.1 vwCl (tyG G) U) {k : Nat} (hk : k < 4) : ∃ kA : Class, U.vm.classes[G.2.1 k]? = some kA := by
  obtain ⟨k9, h9, -⟩ := Vm.findClass_spec (arr_nm K hk)
  exact ⟨k9, h9⟩
theorem MX.any (X : MX p l s m meth c s0 a0 G cc own nL) {H : Heap} {y ty9 : Nat} {x : AE} (r : Rep G s0.heap.size h H) (hy : h y = some (ty9, x)) (ho : OB x) : va_Any "java/lang/Object" s H y := by
  match x, ho, hy with
  | .inl z, ho, hy =>
    have hc9 : (Cond.castable (nmA z.1) "java/lang/Object") ∈ lw_tbl := by
      have : z.1 = 0 ∨ z.1 = 1 ∨ z.1 = 2 ∨ z.1 = 3 := by have h4 : z.1 < 4 := ho; omega
      rcases this with e | e | e | e <;> rw [e]
      · exact List.mem_of_getElem? (i := 912) (by decide +kernel)
      · exact List.mem_of_getElem? (i := 912) (by decide +kernel)
      · exact List.mem_of_getElem? (i := 912) (by decide +kernel)
      · exact List.mem_of_getElem? (i := 911) (by decide +kernel)
    have hcast : va_Nw (Cond.castable (nmA z.1) "java/lang/Object") s := va_Nw.warmC X.2.2.2.2.2.1.1 (X.nw hc9 rfl)
    obtain ⟨c3, c4, hc3, hc4, hasg⟩ := Cond.castable_spec (va_Nw.use (A := #[]) rfl hcast)
    have h3 := arr_nm X.kk ho
    cases Option.some.inj (hc3.symm.trans h3)
    obtain ⟨c9, hce, hcl0, -, hvm0, -⟩ := r.arr hy
    refine ⟨_, hce, hvm0, by rw [hcl0]; exact arr_cls X.kk ho, fun comp hcomp => ?_⟩
    cases Option.some.inj (hc4.symm.trans hcomp)
    rw [hcl0]
    exact hasg
  | .inr o, ho, hy =>
    have hat := (r.o hy).1
    obtain ⟨C, T, N, g1, g2⟩ := ho
    have hcast : va_Nw (Cond.castable C "java/lang/Object") s := va_Nw.warmC X.2.2.2.2.2.1.1 (X.nw g2 rfl)
    obtain ⟨c3, c4, hc3, hc4, hasg⟩ := Cond.castable_spec (va_Nw.use (A := #[]) rfl hcast)
    obtain ⟨rr, h9, cell, q1, q2, q3, q4⟩ := hat
    cases Option.some.inj (h9.symm.trans g1)
    have hfc := (X.kk.1 o.1 _ g1).2
    obtain ⟨kC, hkC, -⟩ := hfc.2
    cases Option.some.inj (hc3.symm.trans hfc.1)
    refine ⟨cell, q1, by rw [q3]; rfl, by rw [q2]; exact ⟨kC, hkC⟩, fun comp hcomp => ?_⟩
    cases Option.some.inj (hc4.symm.trans hcomp)
    rw [q2]
    exact hasg
end AWH
