/-! more rows; cells by their kinds -/
section AW2
variable {p : Program} {l : Launch} {e : Env} {R : Room} {s : State} {m : MethodId} {args : Array Value} {below : List Frame} {meth : Method} {c : Code} {Q : State → Prop} {s0 : State} {a0 : Array Value} {G : GG} {cc : ByteArray} {own : String} {nL tg : Nat} {h0 h : AH} {bc bs pc n : Nat} {L : List (Option Value)} {st : List Value}
theorem aw_lcmp (X : MX p l s m meth c s0 a0 G cc own nL) {x y : Int64} (hd : decode cc pc = .ok (.lcmp, 1)) (hn : pc + 1 = n) (k : AW p l e R s m args below meth c Q s0 G nL tg h0 h bc bs n L (.int (lg_cmp x y) :: st)) : AW p l e R s m args below meth c Q s0 G nL tg h0 h bc bs pc L (.long y :: .long x :: st) := fun H locs cells slots ls r f z hc hs hl => W.lcmp X.2.1 X.2.2.1 hd (by rw [hn]; exact k H locs cells slots ls r f z hc hs hl)
theorem aw_tswIn (X : MX p l s m meth c s0 a0 G cc own nL) {dflt lo hi off : Int} {offs : Array Int} {len : Nat} {x : Int32} (i : Nat) (hd : decode cc pc = .ok (.tableswitch dflt lo hi offs, len)) (h1 : x.toInt = lo + i) (h2 : lo + i ≤ hi) (ho : offs[i]? = some off) (ht : (pc : Int) + off = (n : Int)) (k : AW p l e R s m args below meth c Q s0 G nL tg h0 h bc bs n L st) : AW p l e R s m args below meth c Q s0 G nL tg h0 h bc bs pc L (.int x :: st) := fun H locs cells slots ls r f z hc hs hl => lv_tableIn X.2.1 X.2.2.1 hd (by omega) (by omega) (by rw [show (x.toInt - lo).toNat = i by omega]; exact ho) ht (k H locs cells slots ls r f z hc hs hl)
theorem aw_tswOut (X : MX p l s m meth c s0 a0 G cc own nL) {dflt lo hi : Int} {offs : Array Int} {len : Nat} {x : Int32} (hd : decode cc pc = .ok (.tableswitch dflt lo hi offs, len)) (h1 : x.toInt < lo ∨ hi < x.toInt) (ht : (pc : Int) + dflt = (n : Int)) (k : AW p l e R s m args below meth c Q s0 G nL tg h0 h bc bs n L st) : AW p l e R s m args below meth c Q s0 G nL tg h0 h bc bs pc L (.int x :: st) := fun H locs cells slots ls r f z hc hs hl => lv_tableOut X.2.1 X.2.2.1 hd h1 ht (k H locs cells slots ls r f z hc hs hl)
theorem aw_acmp_eq (X : MX p l s m meth c s0 a0 G cc own nL) {x y n2 : Nat} {off : Int} (hd : decode cc pc = .ok (.if_acmp .eq off, 3)) (ht : (pc : Int) + off = (n2 : Int)) (hn : pc + 3 = n) (kt : x = y → AW p l e R s m args below meth c Q s0 G nL tg h0 h bc bs n2 L st) (kf : ¬ x = y → AW p l e R s m args below meth c Q s0 G nL tg h0 h bc bs n L st) : AW p l e R s m args below meth c Q s0 G nL tg h0 h bc bs pc L (.ref y :: .ref x :: st) := fun H locs cells slots ls r f z hc hs hl => lv_acmp_eq (rx := some x) (ry := some y) X.2.1 X.2.2.1 hd ht (fun q => kt (by simpa using q) H locs cells slots ls r f z hc hs hl) (fun q => by rw [hn]; exact kf (by simpa using q) H locs cells slots ls r f z hc hs hl)
theorem aw_acmp_ne (X : MX p l s m meth c s0 a0 G cc own nL) {x y n2 : Nat} {off : Int} (hd : decode cc pc = .ok (.if_acmp .ne off, 3)) (ht : (pc : Int) + off = (n2 : Int)) (hn : pc + 3 = n) (kt : ¬ x = y → AW p l e R s m args below meth c Q s0 G nL tg h0 h bc bs n2 L st) (kf : x = y → AW p l e R s m args below meth c Q s0 G nL tg h0 h bc bs n L st) : AW p l e R s m args below meth c Q s0 G nL tg h0 h bc bs pc L (.ref y :: .ref x :: st) := fun H locs cells slots ls r f z hc hs hl => lv_acmp_ne (rx := some x) (ry := some y) X.2.1 X.2.2.1 hd ht (fun q => kt (by simpa using q) H locs cells slots ls r f z hc hs hl) (fun q => by rw [hn]; exact kf (by simpa using q) H locs cells slots ls r f z hc hs hl)
theorem aw_ldcC (X : MX p l s m meth c s0 a0 G cc own nL) {index mi : Nat} {C : String} (hd : decode cc pc = .ok (.ldc index, 2)) (hn : pc + 2 = n) (hw : TW (.classLink own index C)) (hM : va_Mi C mi s0) (k : AW p l e R s m args below meth c Q s0 G nL tg h0 h bc bs n L (.ref mi :: st)) : AW p l e R s m args below meth c Q s0 G nL tg h0 h bc bs pc L st := fun H locs cells slots ls r f z hc hs hl => va_ldcM X.2.1 X.2.2.1 X.2.2.2.2.1 (X.tw hw) (hM.moved X.2.2.2.2.2.1.1.alike) hd (by rw [hn]; exact k H locs cells slots ls r f z hc hs hl)
abbrev ogC : MethodName := ⟨"java/lang/Object", "getClass", "()Ljava/lang/Class;"⟩
theorem aw_getC (X : MX p l s m meth c s0 a0 G cc own nL) {a t index mi : Nat} {y : vp_A} (hd : decode cc pc = .ok (.invokevirtual index, 3)) (hn : pc + 3 = n) (hw : TW (.methodLink own index ogC) ∧ TW (.selects "[Ljava/lang/Object;" ogC ogC) ∧ TW (.instanceMethod ogC) ∧ TW (.native ogC) ∧ (Cond.declares ogC) ∈ lw_tbl) (hM : va_Mi "[Ljava/lang/Object;" mi s0) (hh : h a = some (t, .inl (3, y))) (hR : 1 ≤ R.frames) (hR2 : (st.map fun v => v.category).sum + 14 ≤ R.locals) (k : AW p l e R s m args below meth c Q s0 G nL tg h0 h bc bs n L (.ref mi :: st)) : AW p l e R s m args below meth c Q s0 G nL tg h0 h bc bs pc L (.ref a :: st) := by
  intro H locs cells slots ls r f z hc hs hl
  have hDc : va_Dc s := (va_Dc.of (X.1.2.1 _ hw.2.2.2.2)).moved X.2.2.2.2.2.1.1.alike
  obtain ⟨c9, hce, hcl0, -, hvm0, -⟩ := r.arr hh
  exact va_getC X.2.1 X.2.2.1 (by rw [X.2.2.2.1]; exact hl.1.symm) X.2.2.2.2.1 (X.tw hw.1) (va_Dc.use hDc) (X.tw hw.2.1) (X.tw hw.2.2.1) (X.tw hw.2.2.2.1) (hM.moved X.2.2.2.2.2.1.1.alike) ⟨_, hce, hvm0, by rw [hcl0]; exact arr_nm X.kk (k := 3) (by decide)⟩ hR hR2 hd (by rw [hn]; exact k H locs cells slots ls r f z hc hs hl)
theorem aw_acopy (X : MX p l s m meth c s0 a0 G cc own nL) {a b t index n0 n1 cnt : Nat} {f9 g9 : Nat → Option Nat} {i : Int32} (hd : decode cc pc = .ok (.invokestatic index, 3)) (hn : pc + 3 = n) (htg : tg ≠ 0) (hw : TW (.methodLink own index arraycopyName) ∧ TW (.native arraycopyName) ∧ TW (.static arraycopyName) ∧ TW (.initialized "java/lang/System")) (h0a : h a = some (t, .inl (3, n0, .inr (.inr (.inr (.inr f9)))))) (h1a : h b = some (tg, .inl (3, n1, .inr (.inr (.inr (.inr g9)))))) (hi : i = nI cnt) (hk0 : cnt ≤ n0) (hk1 : cnt ≤ n1) (hk : cnt < 2 ^ 31) (hel : ∀ j, j < cnt → ∀ y, f9 j = some y → ∃ ty x, h y = some (ty, x) ∧ OB x) (hR : 1 ≤ R.frames) (hR2 : (st.map fun v => v.category).sum + (nativeFrameWords "java/lang/System" "arraycopy" 5 + 11) ≤ R.locals) (k : AW p l e R s m args below meth c Q s0 G nL tg h0 (hu h b (tg, .inl (3, n1, .inr (.inr (.inr (.inr (va_cpy f9 g9 0 0 cnt))))))) bc bs n L st) : AW p l e R s m args below meth c Q s0 G nL tg h0 h bc bs pc L (.int i :: .int 0 :: .ref b :: .int 0 :: .ref a :: st) := by
  subst hi
  intro H locs cells slots ls r f z hc hs hl T hT Xs
  have e9 : (nI cnt).toNatClampNeg = cnt := nI_clamp hk
  have ti : (nI cnt).toInt = (cnt : Int) := nI_toInt hk
  obtain ⟨cs9, hc0, hcl9, hsl9, hst9, hun9⟩ := r.arr h0a
  have hsl8 : cs9.slots = (arrV (G.2.1 3) n0 (fun j => va_rf (f9 j))).slots := hsl9
  have hc1 : H[b]? = some (vp_cell (G.2.1 3) (n1, .inr (.inr (.inr (.inr g9))))) := (r.tg htg h1a).1
  obtain ⟨-, k0, hk0', cm0, hkk0⟩ := (X.kk.2 3 _ rfl).1 n0 (fun j => va_rf (f9 j))
  obtain ⟨-, k1, hk1', cm1, hkk1⟩ := (X.kk.2 3 _ rfl).1 n1 (fun j => va_rf (g9 j))
  obtain ⟨vm', X', step⟩ := Xs.arraycopy X.2.1 X.2.2.2.2.1 (X.tw hw.1) (X.tw hw.2.1) (X.tw hw.2.2.1) (X.tw hw.2.2.2) (src := a) (dst := b) (cs := cs9) (cd := vp_cell (G.2.1 3) (n1, .inr (.inr (.inr (.inr g9))))) (srcPos := 0) (destPos := 0) (n := nI cnt) (by rw [hT]; exact hc0) (by rw [hT]; exact hc1)
    (fun _ h => by rw [h] at hst9; cases hst9) (fun _ h => by cases h) hun9 (fun h => by cases h) (by rw [hcl9]; exact hk0') hk1' hkk0 hkk1 rfl (by decide) (by decide) (nI_pos hk)
    (by rw [ti, hsl8, arrV_size]; show ¬ (0 : Int) + _ > _; omega)
    (by rw [ti]; show ¬ (0 : Int) + _ > ((arrV (G.2.1 3) n1 (fun j => va_rf (g9 j))).slots.size : Int); rw [arrV_size]; omega)
    (fun vm₁ hal i hi => by
      rw [e9] at hi
      have e : cs9.slots.getD ((0 : Int32).toNatClampNeg + i) .null = va_rf (f9 i) := by
        rw [hsl8]
        rw [show (0 : Int32).toNatClampNeg + i = i by rw [show (0 : Int32).toNatClampNeg = 0 by decide]; omega, Array.getD_eq_getD_getElem?, arrV_read _ _ (by omega)]
        rfl
      rw [e]
      cases hy : f9 i with
      | none => exact ⟨rfl, trivial⟩
      | some y =>
        obtain ⟨ty, x, hx1, hx2⟩ := hel i hi y hy
        obtain ⟨cellV, g1, g2, ⟨kC, hkC⟩, hasg⟩ := X.any r hx1 hx2
        obtain ⟨kA, comp, r1, r2, r3, -⟩ := (X.kk.2 3 _ rfl).2
        cases hk1'.symm.trans r1
        cases hkk1.symm.trans r2
        obtain ⟨kE, hkE, -⟩ := Vm.findClass_spec r3
        obtain ⟨kC', hkC', -⟩ := hal.2.2 _ _ hkC
        obtain ⟨kE', hkE', -⟩ := hal.2.2 _ _ hkE
        refine ⟨rfl, cellV, (show T.heap[y]? = some cellV by rw [hT]; exact g1), (fun q h => by rw [h] at g2; cases g2), ⟨kC', hkC'⟩, ?_, ?_⟩
        · exact ⟨kE', hkE'⟩
        · show vm₁.assignable _ _ = true
          rw [hal.assignable]
          exact hasg _ r3)
    (g := F0 m pc ls (.int (nI cnt) :: .int 0 :: .ref b :: .int 0 :: .ref a :: st)) rfl (by rw [X.2.2.2.1]; exact hl.1) (rest := st) rfl (by rw [X.2.2.1]; exact hd) hR (by show 2 * 0 + _ + _ ≤ _; omega)
  have e1 : copied cs9 (vp_cell (G.2.1 3) (n1, .inr (.inr (.inr (.inr g9))))) 0 0 (nI cnt) = vp_cell (G.2.1 3) (n1, .inr (.inr (.inr (.inr (va_cpy f9 g9 0 0 cnt))))) := by
    rw [vp_cell_q, vp_cell_q]
    have := va_copied (fun z => va_rf z) (G.2.1 3) (G.2.1 3) (n1 := n1) (sp := 0) (dp := 0) f9 g9 (show 0 + cnt ≤ n0 by omega)
    show (arrV _ _ _).storeRun (0 : Int32).toNatClampNeg (cs9.stretch (0 : Int32).toNatClampNeg (nI cnt).toNatClampNeg) = _
    rw [e9]
    unfold Cell.stretch at this ⊢
    rw [hsl8]
    exact this
  rw [e1] at X' step
  have hlt : b < H.size := (Array.getElem?_eq_some_iff.mp hc1).1
  have oq : ∀ q : Nat, q ≠ b → (H.setIfInBounds b (vp_cell (G.2.1 3) (n1, .inr (.inr (.inr (.inr (va_cpy f9 g9 0 0 cnt)))))))[q]? = H[q]? := fun q hq => by simp [Array.getElem?_setIfInBounds, Ne.symm hq]
  have hheap : ((T.setVm vm').setCell b (vp_cell (G.2.1 3) (n1, .inr (.inr (.inr (.inr (va_cpy f9 g9 0 0 cnt))))))).heap = H.setIfInBounds b (vp_cell (G.2.1 3) (n1, .inr (.inr (.inr (.inr (va_cpy f9 g9 0 0 cnt)))))) := by rw [← hT]; rfl
  have hB := (r.tg htg h1a).2 htg
  obtain ⟨t9, a1, b1⟩ := k _ _ cells slots ls (r.put h1a (y := .inl (3, n1, .inr (.inr (.inr (.inr (va_cpy f9 g9 0 0 cnt)))))) (show (H.setIfInBounds b _)[b]? = some _ by simp [Array.getElem?_setIfInBounds, hlt]) oq) (f.put h1a) ⟨by simp; exact z.1, fun q g1 g2 => by
      rw [oq q (fun e => g2 (by rw [e]; exact hB))]
      exact z.2.1 q g1 g2, fun q hq => by
      rcases List.mem_append.mp hq with h | h
      · exact z.2.2 q h
      · obtain ⟨z9, -, hz⟩ := List.mem_map.mp h
        rw [← hz]
        exact hB⟩ hc hs hl _ hheap X'
  refine ⟨t9, step t9 ?_, b1⟩
  rw [hn]
  exact a1
end AW2
/-- a loop of n rounds: its head at round k is A k -/
theorem aw_for {A : Nat → Prop} (n : Nat) (he : A n) (hs : ∀ k, k < n → A (k + 1) → A k) : ∀ k, k ≤ n → A k := by
  intro k hk
  obtain ⟨j, rfl⟩ : ∃ j, n = k + j := ⟨n - k, by omega⟩
  clear hk
  induction j generalizing k with
  | zero => exact he
  | succ j ih =>
    refine hs k (by omega) (ih (k + 1) ?_ ?_)
    · rw [show k + 1 + j = k + (j + 1) by omega]; exact he
    · intro q hq h
      exact hs q (by omega) h
/-- a loop of n rounds, j of them to come: its head at round k is A j k -/
theorem aw_dn {A : Nat → Nat → Prop} {n : Nat} (he : A 0 n) (hs : ∀ j k, j + 1 + k = n → A j (k + 1) → A (j + 1) k) : ∀ j k, j + k = n → A j k := by
  intro j
  induction j with
  | zero => intro k h; rw [show k = n by omega]; exact he
  | succ j ih => intro k h; exact hs j k h (ih (k + 1) (by omega))
theorem ge_t {x : Int32} {n k : Nat} (hx : x = nI k) (h : n ≤ k) (hk : k < 2 ^ 31) : nI n ≤ x := by rw [hx]; exact nI_le h hk
theorem ge_f {x : Int32} {n k : Nat} (hx : x = nI k) (h : k < n) (hn : n < 2 ^ 31) : ¬ nI n ≤ x := by rw [hx]; exact nI_ge h hn
theorem nx {x : Int32} {k : Nat} (hx : x = nI k) : x + 1 = nI (k + 1) := by rw [hx, nI_1]
theorem tsw_out {x : Int32} {lo hi : Int} (h : ∀ k : Int, lo ≤ k → k ≤ hi → x = Int32.ofInt k → False) : x.toInt < lo ∨ hi < x.toInt := by
  by_cases h1 : x.toInt < lo
  · exact Or.inl h1
  · by_cases h2 : hi < x.toInt
    · exact Or.inr h2
    · exact absurd (Int32.ofInt_toInt x).symm (fun e => h _ (by omega) (by omega) e)
/-- the cells of the class: by the values of their fields -/
abbrev vI (x : Int32) : Value := .int x
def oFig (f : Nat → Int32) : AE := .inr (2, [.int (f 0), .int (f 1), .int (f 2), .int (f 3), .int (f 4), .int (f 5), .int (f 6)])
def oOrc (f : Nat → Int32) : AE := .inr (3, [.int (f 0), .int (f 1), .int (f 2), .int (f 3), .int (f 4)])
def oPer (f : Nat → Int32) : AE := .inr (4, [.int (f 0), .int (f 1), .int (f 2), .int (f 3), .int (f 4), .int (f 5)])
def oScn (f : Nat → Int32) : AE := .inr (6, [.int (f 0), .int (f 1), .int (f 2), .int (f 3), .int (f 4), .int (f 5), .int (f 6), .int (f 7), .int (f 8), .int (f 9)])
def oArr (cap : Nat) (g : Nat → Option Nat) : AE := .inl (3, cap, .inr (.inr (.inr (.inr g))))
def oRow (n : Nat) (f : Nat → Int32) : AE := .inl (0, n, .inl f)
def oLst (md : Int32) (ed : Nat) (n : Int32) : AE := .inr (1, [.int md, .ref ed, .int n])
def oItr (cur last md : Int32) (L : Nat) : AE := .inr (0, [.int cur, .int last, .int md, .ref L])
theorem hu_comm {h : AH} {a b : Nat} {x y : AC} (e : a ≠ b) : hu (hu h a x) b y = hu (hu h b y) a x := by
  funext c
  by_cases q : c = a
  · subst q
    rw [hu_n e, hu_s, hu_s]
  · by_cases q2 : c = b
    · subst q2
      rw [hu_s, hu_n q, hu_s]
    · rw [hu_n q2, hu_n q, hu_n q, hu_n q2]
theorem hu_id {h : AH} {a : Nat} {x : AC} (e : h a = some x) : hu h a x = h := by
  funext b
  by_cases q : b = a
  · rw [q, hu_s, e]
  · rw [hu_n q]
/-- a word of 32 bits, asked -/
def bI (c : Prop) [Decidable c] : Int32 := if c then 1 else 0
theorem bI_0 {c : Prop} [Decidable c] : (bI c = 0) = ¬ c := by
  by_cases h : c
  · simp [bI, h]
  · simp [bI, h]
theorem bI_ne {c : Prop} [Decidable c] : (bI c = 1) = c := by
  by_cases h : c
  · simp [bI, h]
  · simp [bI, h]
theorem bI_t {c : Prop} [Decidable c] (h : c) : bI c = 1 := if_pos h
theorem bI_f {c : Prop} [Decidable c] (h : ¬ c) : bI c = 0 := if_neg h
