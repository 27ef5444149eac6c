/-! rows over the store: arrays of references, new arrays, casts, statics, Math, returns -/
section AWH2
variable {p : Program} {l : Launch} {e : Env} {R : Room} {s : State} {m : MethodId} {args : Array Value} {below : List Frame} {meth : Method} {c : Code} {Q : State → Prop} {s0 : State} {a0 : Array Value} {G : GG} {cc : ByteArray} {own : String} {nL tg : Nat} {h0 h : AH} {bc bs pc n : Nat} {L : List (Option Value)} {st : List Value}
variable {a t : Nat}
theorem aw_aast (X : MX p l s m meth c s0 a0 G cc own nL) {N y ty9 : Nat} {x9 : AE} {g : Nat → Option Nat} {i : Int32} (j : Nat) (hd : decode cc pc = .ok (.aastore, 1)) (hn : pc + 1 = n) (htg : tg ≠ 0) (hh : h a = some (tg, .inl (3, N, .inr (.inr (.inr (.inr g)))))) (hy : h y = some (ty9, x9)) (ho : OB x9) (hj : i = nI j) (hlt : j < N) (hN : N < 2 ^ 31) (k : AW p l e R s m args below meth c Q s0 G nL tg h0 (hu h a (tg, .inl (3, N, .inr (.inr (.inr (.inr (va_up g j (some y)))))))) bc bs n L st) : AW p l e R s m args below meth c Q s0 G nL tg h0 h bc bs pc L (.ref y :: .int i :: .ref a :: st) := by
  intro H locs cells slots ls r f z hc hs hl
  subst hj
  have hin := vp_in_nI hlt hN
  have h0 : ¬ nI j < 0 := fun q => hin (Or.inl q)
  have hlt9 : (nI j).toNatClampNeg < N := Nat.not_le.mp fun q => hin (Or.inr q)
  obtain ⟨cellV, g1, g3, ⟨kC, hkC⟩, hasg⟩ := X.any r hy ho
  obtain ⟨kA, comp, k1, k2, k3, -⟩ := (X.kk.2 3 _ rfl).2
  obtain ⟨kE, hkE, -⟩ := Vm.findClass_spec k3
  refine W.aast X.2.1 X.2.2.1 (r.tg htg hh).1 (fun q h => by cases h) (fun h => by cases h) k1 k2 rfl hkE ⟨h0, by show _ < (arrV _ _ _).slots.size; rw [arrV_size]; exact hlt9⟩ g1 (fun q h => by rw [h] at g3; cases g3) hkC (hasg _ k3) rfl rfl hd fun H1 e z9 oq => ?_
  rw [hn]
  refine k H1 _ cells slots ls (r.put hh ?_ oq) (f.put hh) (z.put z9 oq ((r.tg htg hh).2 htg)) hc hs hl
  show H1[a]? = some (vp_cell _ _)
  rw [e]
  show some ((vp_cell _ _).setSlot _ _) = some (vp_cell _ _)
  rw [vp_cell_q, vp_cell_q, arrV_store, nI_clamp (by omega)]
  congr 2
  funext q
  by_cases hq : q = j
  · subst hq
    simp [updV, va_up, va_rf]
  · simp [updV, va_up, hq]
theorem aw_alen (X : MX p l s m meth c s0 a0 G cc own nL) {kd : Nat} {y : vp_A} (hd : decode cc pc = .ok (.arraylength, 1)) (hn : pc + 1 = n) (hh : h a = some (t, .inl (kd, y))) (hk : kd < 4) (k : AW p l e R s m args below meth c Q s0 G nL tg h0 h bc bs n L (.int (nI y.1) :: st)) : AW p l e R s m args below meth c Q s0 G nL tg h0 h bc bs pc L (.ref a :: st) := by
  intro H locs cells slots ls r f z hc hs hl
  have h9 : (tyG G)[kd]? = some (G.2.1 kd, match kd with | 0 => FieldType.int | 1 => .int | 2 => .int | _ => .object "java/lang/Object") := by
    match kd, hk with
    | 0, _ => rfl
    | 1, _ => rfl
    | 2, _ => rfl
    | 3, _ => rfl
  obtain ⟨c9, g1, g2, g3, g4, -⟩ := r.arr hh
  have hsz : c9.slots.size = y.1 := by
    rw [g3]
    obtain ⟨n9, f9 | f9 | f9 | f9 | f9⟩ := y <;> exact arrV_size _ _ _
  obtain ⟨k9, hk9, cm9, hkk9⟩ := ((X.kk.2 kd _ h9).1 0 (fun _ => .null)).2
  exact W.alen (n := nI y.1) X.2.1 X.2.2.1 g1 ⟨fun q e9 => (by rw [e9] at g4; cases g4), k9, (by rw [g2]; exact hk9), cm9, hkk9⟩ (by rw [hsz]; rfl) rfl rfl hd (by rw [hn]; exact k H locs cells slots ls r f z hc hs hl)
theorem aw_newi (X : MX p l s m meth c s0 a0 G cc own nL) {N : Nat} {i : Int32} (hd : decode cc pc = .ok (.newarray .int, 2)) (hn : pc + 2 = n) (hi : i = nI N) (hN : N < 65536) (hw : TW (.arrayClass .int)) (k : ∀ q : Nat, h q = none → AW p l e R s m args below meth c Q s0 G nL tg h0 (hu h q (tg, .inl (0, N, .inl (fun _ => 0)))) bc bs n L (.ref q :: st)) : AW p l e R s m args below meth c Q s0 G nL tg h0 h (bc + 1) (bs + N) pc L (.int i :: st) := by
  intro H locs cells slots ls r f z hc hs hl
  subst hi
  refine va_newaK (atype := .int) X.2.1 X.2.2.1 (X.tw hw) rfl hd rfl (nI_pos (by omega)) (nI_clamp (by omega)) (by show N * _ ≤ _; simp only [newarray.typeOf, componentBytes]; omega) (by omega) (by omega) rfl fun H1 cA e1 z1 o1 hAr hNm => ?_
  have hcA : cA = G.2.1 0 := Option.some.inj (hNm.symm.trans (X.kk.2 0 _ rfl).2)
  subst hcA
  rw [hn]
  refine k H.size r.fresh H1 _ _ _ ls (r.new (X.big z) ?_ o1) (f.new r.fresh) (z.up (by omega) o1) (by omega) (by omega) hl
  show H1[H.size]? = some (vp_cell _ _)
  rw [e1]
  rfl
theorem aw_newq (X : MX p l s m meth c s0 a0 G cc own nL) {N index : Nat} {i : Int32} (hd : decode cc pc = .ok (.anewarray index, 3)) (hn : pc + 3 = n) (hw : TW (.classLink own index "java/lang/Object")) (hi : i = nI N) (hN : N < 65536) (k : ∀ q : Nat, h q = none → AW p l e R s m args below meth c Q s0 G nL tg h0 (hu h q (tg, .inl (3, N, .inr (.inr (.inr (.inr (fun _ => none))))))) bc bs n L (.ref q :: st)) : AW p l e R s m args below meth c Q s0 G nL tg h0 h (bc + 1) (bs + N) pc L (.int i :: st) := by
  intro H locs cells slots ls r f z hc hs hl
  subst hi
  have hAO : va_AO "java/lang/Object" s := va_AO.moved X.2.2.2.2.2.1.1.alike X.1.2.2.2.2.2.2.2.1
  refine W.anew X.2.1 X.2.2.1 X.2.2.2.2.1 (X.tw hw) (va_AO.use hAO) rfl hd rfl (nI_pos (by omega)) (by rw [nI_clamp (by omega)]; omega) (by omega) (by rw [nI_clamp (by omega)]; omega) fun cA kA comp f1 f2 f3 f4 => ?_
  rw [nI_clamp (by omega)]
  have hcA : cA = G.2.1 3 := Option.some.inj (f1.symm.trans (arr_nm X.kk (k := 3) (by decide)))
  subst hcA
  rw [hn]
  have o1 : ∀ q : Nat, q < H.size → (H.push ({ cls := G.2.1 3, slots := Array.replicate N .null, vm := .none } : Cell))[q]? = H[q]? := fun q hq => by rw [Array.getElem?_push, if_neg (Nat.ne_of_lt hq)]
  refine k H.size r.fresh _ _ _ _ ls (r.new (X.big z) ?_ o1) (f.new r.fresh) (z.up (by simp) o1) (by omega) (by omega) hl
  show (H.push _)[H.size]? = some (vp_cell _ _)
  rw [Array.getElem?_push_size, vp_cell_q, arrV_new]
  rfl
theorem MX.recv (X : MX p l s m meth c s0 a0 G cc own nL) {H : Heap} {ci : Nat} {fs : List Value} {C : String} {T : u_T} {N : Nat} (r : Rep G s0.heap.size h H) (hh : h a = some (t, .inr (ci, fs))) (hc : vwCl[ci]? = some (C, T, N)) : ∃ cell : Cell, H[a]? = some cell ∧ cell.vm.isStatics = false ∧ s.vm.findClass C = some cell.cls := va_recv (q := (C, T, N)) X.kk (va_P1 (r.o hh).1) hc (q0 := 0) rfl
theorem aw_cast (X : MX p l s m meth c s0 a0 G cc own nL) {index ci : Nat} {fs : List Value} {C : String} {T : u_T} {N : Nat} (hd : decode cc pc = .ok (.checkcast index, 3)) (hn : pc + 3 = n) (hc9 : vwCl[ci]? = some (C, T, N)) (hw : TW (.classLink own index C)) (hh : h a = some (t, .inr (ci, fs))) (k : AW p l e R s m args below meth c Q s0 G nL tg h0 h bc bs n L (.ref a :: st)) : AW p l e R s m args below meth c Q s0 G nL tg h0 h bc bs pc L (.ref a :: st) := by
  intro H locs cells slots ls r f z hc hs hl
  exact va_castS X.2.1 X.2.2.1 X.2.2.2.2.1 (X.tw hw) (X.kk.1 ci _ hc9).2 (X.recv r hh hc9) hd (by rw [hn]; exact k H locs cells slots ls r f z hc hs hl)
theorem aw_castA (X : MX p l s m meth c s0 a0 G cc own nL) {index kd : Nat} {y : vp_A} (hd : decode cc pc = .ok (.checkcast index, 3)) (hn : pc + 3 = n) (hk : kd < 4) (hw : TW (.classLink own index (nmA kd))) (hh : h a = some (t, .inl (kd, y))) (k : AW p l e R s m args below meth c Q s0 G nL tg h0 h bc bs n L (.ref a :: st)) : AW p l e R s m args below meth c Q s0 G nL tg h0 h bc bs pc L (.ref a :: st) := by
  intro H locs cells slots ls r f z hc hs hl
  obtain ⟨c9, g1, g2, -, g4, -⟩ := r.arr hh
  intro T9 hT9 X9
  obtain ⟨vm9, X8, st9⟩ := X9.checkcastYes X.2.1 X.2.2.2.2.1 (X.tw hw) (by rw [hT9]; exact g1) g4 (arr_nm X.kk hk) (by rw [g2]; exact va_asg _ _) (g := F0 m pc ls (.ref a :: st)) rfl rfl (by rw [X.2.2.1]; exact hd)
  obtain ⟨t9, a9, b9⟩ := k H locs cells slots ls r f z hc hs hl (T9.setVm vm9) hT9 X8
  refine ⟨t9, st9 t9 ?_, b9⟩
  rw [← hn] at a9
  exact a9
theorem aw_gets0 (X : MX p l s m meth c s0 a0 G cc own nL) {index : Nat} (hd : decode cc pc = .ok (.getstatic index, 3)) (hn : pc + 3 = n) (hw : TW (.fieldLink own index "java/util/ArrayList" "DEFAULTCAPACITY_EMPTY_ELEMENTDATA" "[Ljava/lang/Object;")) (k : AW p l e R s m args below meth c Q s0 G nL tg h0 h bc bs n L (.ref (G.2.2 0) :: st)) : AW p l e R s m args below meth c Q s0 G nL tg h0 h bc bs pc L st := by
  intro H locs cells slots ls r f z hc hs hl
  have hZ := ((X.1.2.2.2.1).moved X.2.2.2.2.2.1.1.alike).kept (H1 := s.heap) (fun a9 h9 _ => X.2.2.2.2.2.1.2.1 a9 h9)
  exact va_gets X.2.1 X.2.2.1 hZ z X.2.2.2.2.1 (X.tw hw) (fun x hx => hx) hd (by rw [hn]; exact k H locs cells slots ls r f z hc hs hl)
theorem aw_ldc (X : MX p l s m meth c s0 a0 G cc own nL) {index : Nat} (v : Int32) (hd : decode cc pc = .ok (.ldc index, 2)) (hn : pc + 2 = n) (hw : TW (.constant own index v)) (k : AW p l e R s m args below meth c Q s0 G nL tg h0 h bc bs n L (.int v :: st)) : AW p l e R s m args below meth c Q s0 G nL tg h0 h bc bs pc L st := fun H locs cells slots ls r f z hc hs hl => lv_ldc X.2.1 X.2.2.1 X.2.2.2.2.1 (X.tw hw) hd (by rw [hn]; exact k H locs cells slots ls r f z hc hs hl)
theorem aw_ldc2 (X : MX p l s m meth c s0 a0 G cc own nL) {index : Nat} (v : Int64) (hd : decode cc pc = .ok (.ldc2_w index, 3)) (hn : pc + 3 = n) (hw : TW (.constantLong own index v)) (k : AW p l e R s m args below meth c Q s0 G nL tg h0 h bc bs n L (.long v :: st)) : AW p l e R s m args below meth c Q s0 G nL tg h0 h bc bs pc L st := fun H locs cells slots ls r f z hc hs hl => lv_ldc2 X.2.1 X.2.2.1 X.2.2.2.2.1 (X.tw hw) hd (by rw [hn]; exact k H locs cells slots ls r f z hc hs hl)
theorem aw_mmax (X : MX p l s m meth c s0 a0 G cc own nL) {index : Nat} {x y : Int32} (hd : decode cc pc = .ok (.invokestatic index, 3)) (hn : pc + 3 = n) (hw : TW (.methodLink own index Lib.Math.max.name) ∧ TW (.static Lib.Math.max.name) ∧ TW (.initialized "java/lang/Math") ∧ TW (.code Lib.Math.max.name Lib.Math.max.code 2 (some .int))) (hR : 1 ≤ R.frames) (hR2 : (st.map fun v => v.category).sum + 13 ≤ R.locals) (k : AW p l e R s m args below meth c Q s0 G nL tg h0 h bc bs n L (.int (if x < y then y else x) :: st)) : AW p l e R s m args below meth c Q s0 G nL tg h0 h bc bs pc L (.int y :: .int x :: st) := by
  intro H locs cells slots ls r f z hc hs hl
  exact va_mmax X.2.1 X.2.2.1 (by rw [X.2.2.2.1]; exact hl.1.symm) X.2.2.2.2.1 (X.tw hw.1) (X.tw hw.2.1) (X.tw hw.2.2.1) (X.tw hw.2.2.2) hR hR2 (by omega) (by omega) hd (by rw [hn]; exact k H locs cells slots ls r f z hc hs hl)
theorem aw_mmin (X : MX p l s m meth c s0 a0 G cc own nL) {index : Nat} {x y : Int32} (hd : decode cc pc = .ok (.invokestatic index, 3)) (hn : pc + 3 = n) (hw : TW (.methodLink own index Lib.Math.min.name) ∧ TW (.static Lib.Math.min.name) ∧ TW (.initialized "java/lang/Math") ∧ TW (.code Lib.Math.min.name Lib.Math.min.code 2 (some .int))) (hR : 1 ≤ R.frames) (hR2 : (st.map fun v => v.category).sum + 13 ≤ R.locals) (k : AW p l e R s m args below meth c Q s0 G nL tg h0 h bc bs n L (.int (if y < x then y else x) :: st)) : AW p l e R s m args below meth c Q s0 G nL tg h0 h bc bs pc L (.int y :: .int x :: st) := by
  intro H locs cells slots ls r f z hc hs hl
  exact va_mmin X.2.1 X.2.2.1 (by rw [X.2.2.2.1]; exact hl.1.symm) X.2.2.2.2.1 (X.tw hw.1) (X.tw hw.2.1) (X.tw hw.2.2.1) (X.tw hw.2.2.2) hR hR2 (by omega) (by omega) hd (by rw [hn]; exact k H locs cells slots ls r f z hc hs hl)
theorem aw_mabs (X : MX p l s m meth c s0 a0 G cc own nL) {index : Nat} {x : Int32} (hd : decode cc pc = .ok (.invokestatic index, 3)) (hn : pc + 3 = n) (hw : TW (.methodLink own index Lib.Math.abs.name) ∧ TW (.static Lib.Math.abs.name) ∧ TW (.initialized "java/lang/Math") ∧ TW (.code Lib.Math.abs.name Lib.Math.abs.code 1 (some .int))) (hR : 1 ≤ R.frames) (hR2 : (st.map fun v => v.category).sum + 13 ≤ R.locals) (k : AW p l e R s m args below meth c Q s0 G nL tg h0 h bc bs n L (.int (if 0 ≤ x then x else 0 - x) :: st)) : AW p l e R s m args below meth c Q s0 G nL tg h0 h bc bs pc L (.int x :: st) := by
  intro H locs cells slots ls r f z hc hs hl
  exact va_mabs X.2.1 X.2.2.1 (by rw [X.2.2.2.1]; exact hl.1.symm) X.2.2.2.2.1 (X.tw hw.1) (X.tw hw.2.1) (X.tw hw.2.2.1) (X.tw hw.2.2.2) hR hR2 (by omega) (by omega) hd (by rw [hn]; exact k H locs cells slots ls r f z hc hs hl)
theorem aw_objInit (X : MX p l s m meth c s0 a0 G cc own nL) {index : Nat} (hd : decode cc pc = .ok (.invokespecial index, 3)) (hn : pc + 3 = n) (hw : TW (.methodLink own index objectInit) ∧ TW (.instanceMethod objectInit) ∧ TW (.code objectInit ⟨#[0xb1]⟩ 1 none)) (hR : 1 ≤ R.frames) (hR2 : (st.map fun v => v.category).sum + 12 ≤ R.locals) (k : AW p l e R s m args below meth c Q s0 G nL tg h0 h bc bs n L st) : AW p l e R s m args below meth c Q s0 G nL tg h0 h bc bs pc L (.ref a :: st) := by
  intro H locs cells slots ls r f z hc hs hl
  refine W.objInit X.2.1 X.2.2.1 X.2.2.2.2.1 (X.tw hw.1) (X.tw hw.2.1) (X.tw hw.2.2) rfl (by rw [X.2.2.2.1]; exact hl.1) rfl hd hR (by show 2 * 0 + _ + 12 ≤ _; omega) ?_
  show W p l e R s m args below meth c H locs cells slots Q (F0 m (pc + 3) ls st)
  rw [hn]
  exact k H locs cells slots ls r f z hc hs hl
end AWH2
