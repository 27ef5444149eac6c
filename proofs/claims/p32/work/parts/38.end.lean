/-! THE CLAIM OUT OF ONE WALK OF THE LAW'S BODY. Your part is whole_start (and what it stands on); all else here is the same for every law, but numbers. -/
def R_law : String := "KelirnightLaw"
def lw_P (b : Addr) (xs : List Int32) (args : Array Value) (s : State) : Prop := args = #[.ref b] ∧ s.IntsAt b xs ∧ xs.length ≤ 260 ∧ (Jvm.Cond.and given_1 narrow_1).before args s = true
/-- what a walk over the start with the record d0 says of its end, said of the start itself -/
theorem lw_closed {s t : State} {o : Outcome} {d0 : Drawn} {L : List Loc} {k n : Nat} (hd0 : s.drawn.sameBut d0 lw_cs) (hv : ∃ v, o = .returned v) (hW : (s.setDrawn d0).WarmedH t.vm) (hs : (s.setDrawn d0).sameButNew ({ t with vm := s.vm } : State) L k n) : State.butDraws s t lw_cs (fun t1 => Framed s o t1 L k n) := by
  have h2 : t.drawn = d0 := congrArg State.drawn hs.1
  refine ⟨⟨hv, hW, State.sameButNew.setDrawn hs s.drawn⟩, ?_, by decide⟩
  rw [h2]
  exact hd0
def lw_Q (_ : Array Value) (s : State) (o : Outcome) (t : State) : Prop := o = .returned (some (.int 1)) ∧ State.butDraws s t lw_cs (fun t1 => Framed s o t1 [] 600074 7301550)
def lw_Z (below : List Frame) (a : Array Value) (s : State) : State → Prop := fun t => ∃ o, t.status = .running ∧ Ended t below o ∧ lw_Q a s o t
/-- the law's own end, with 1 on the stack, nothing written that was there before, its room as the claim has it; d0: the record of draws at this point (at the entry s.drawn: begin with 'refine W.base ?_' and 'have hd0 := Drawn.sameBut.refl s.drawn lw_cs') -/
theorem lw_ret {p : Program} {l : Launch} {e : Env} {s : State} {m : MethodId} {below : List Frame} {meth : Method} {c : Code} {b : Nat} {d0 : Drawn} (hd0 : s.drawn.sameBut d0 lw_cs) (hx : p.tables.exec = Jvm.exec) (hb : c.code = code) (hr : meth.sig.returnType = ret) (hlocks : meth.locks = false) {pc : Nat} {H : Heap} {ls : Array Slot} (hdg : decode code pc = .ok (.ireturn, 1)) : W p l e room_1 (s.setDrawn d0) m #[Value.ref b] below meth c H [] 600074 7301550 (lw_Z below #[Value.ref b] s) (F0 m pc ls [.int 1]) := by
  intro T hT X
  obtain ⟨fs, hret, hrun, hended, hW, hframe⟩ := X.leave (v := some (.int 1)) (hlocks := hlocks) (fun h => by rw [hr] at h; cases h)
  have hmeth' : T.vm.method? m = some meth := X.method'
  refine ⟨T.setFrames fs, ?_, .returned (some (.int 1)), hrun, hended, rfl, lw_closed hd0 ⟨_, rfl⟩ hW hframe⟩
  jvm_step X.here [X.here.top, hx, hb, hdg, hmeth', hr, ret, narrow_b1]
  (try refine ⟨rfl, ?_⟩); (try refine ⟨rfl, ?_⟩)
  first | (intro acts; rw [hret _ acts rfl rfl rfl]) | rw [hret _ _ rfl rfl rfl]
  exact Steps.refl _
/-- what holds at the law's entry: the machine, the code, the tables' words (any of lw_tbl by 'hts w (by decide +kernel)'), the script of L ints xs at the cell b, what the Statement gives of the start (any of its parts by flat_of_before) -/
def lw_At (p : Program) (s : State) (m : MethodId) (meth : Method) (c : Code) (b L : Nat) (xs : Nat → Int32) : Prop :=
  p.tables.exec = Jvm.exec ∧ c.code = code ∧ meth.sig.returnType = ret ∧ c.maxLocals = 19 ∧ s.vm.findClass R_law = some m.cls ∧ (∀ w ∈ lw_tbl, w.before #[Value.ref b] s = true) ∧ va_X b L xs s s.heap ∧ b < s.heap.size ∧ meth.locks = false ∧ (Jvm.Cond.and given_1 narrow_1).before #[Value.ref b] s = true
/-! WHAT THE START GIVES -/
theorem len_is {args : Array Value} {first s : State} {o : Option Outcome} {idx : List Nat} {t : Term} {v : Value} (h : (Term.length t).eval args first o idx s = some v) :
    ∃ a cell, t.eval args first o idx s = some (.ref a) ∧ s.arrayAt? a = some cell ∧ v = .int cell.slots.size.toInt32 ∧ cell.slots.size < 2147483648 := by
  simp only [Term.eval, Option.bind_eq_bind] at h
  cases ht : t.eval args first o idx s with
  | none => simp [ht] at h
  | some x =>
    cases x <;> simp [ht] at h
    case ref a =>
      obtain ⟨cell, hcell, h⟩ := Option.bind_eq_some_iff.mp h
      by_cases hn : cell.slots.size < 2147483648
      · rw [if_pos hn] at h; cases h; exact ⟨a, cell, rfl, hcell, rfl, hn⟩
      · rw [if_neg hn] at h; cases h
theorem len_0 {args : Array Value} {s : State} {t : Term} (h : (Cond.eq (.length t) (.int 0)).before args s = true) : ∃ a cell, t.eval args s none [] s = some (.ref a) ∧ s.arrayAt? a = some cell ∧ cell.slots = #[] := by
  cases hv : (Term.length t).eval args s none [] s with
  | none => simp [Cond.before, Cond.holds, Cond.value, hv] at h
  | some w =>
    obtain ⟨a, cell, h1, h2, h3, h4⟩ := len_is hv
    subst h3
    have hz : (Term.int 0).eval args s none [] s = some (.int 0) := rfl
    have h5 := Cond.eq_ints hv hz
    have h6 : (decide (cell.slots.size.toInt32 = 0)) = true := by
      have h7 : (Cond.eq (.length t) (.int 0)).value args s none s [] = some true := by simpa [Cond.before, Cond.holds] using h
      rw [h5] at h7
      exact Option.some.inj h7
    have h8 : nI cell.slots.size = nI 0 := of_decide_eq_true h6
    have h9 : (nI cell.slots.size).toInt = (nI 0).toInt := by rw [h8]
    rw [nI_toInt (by omega), nI_toInt (by omega)] at h9
    exact ⟨a, cell, h1, h2, Array.size_eq_zero_iff.mp (by omega)⟩
theorem zr_of {args : Array Value} {s : State} {t : Term} {cO : ClassId} (h1 : (Cond.exactly t "[Ljava/lang/Object;").before args s = true) (h2 : (Cond.eq (.length t) (.int 0)).before args s = true) (hG : s.vm.findClass "[Ljava/lang/Object;" = some cO) : ∃ a, t.eval args s none [] s = some (.ref a) ∧ ∃ cell : Cell, s.heap[a]? = some cell ∧ cell.cls = cO ∧ cell.slots = #[] ∧ cell.vm.isStatics = false ∧ cell.vm ≠ .unknown := by
  obtain ⟨a, c9, cell, k9, e1, e2, e3, -, e5, e6, -⟩ := Cond.exactly_spec h1
  obtain ⟨a2, cell2, f1, f2, f3⟩ := len_0 h2
  cases e1.symm.trans f1
  obtain ⟨g1, g2, -⟩ := State.arrayAt?_spec f2
  cases e3.symm.trans g1
  cases e2.symm.trans hG
  exact ⟨a, e1, cell, e3, e6, f3, e5, g2⟩
set_option maxRecDepth 100000 in
theorem cls_of {s : State} {a0 : Array Value} (hts : ∀ w ∈ lw_tbl, w.before a0 s = true) : ∀ c : Nat, ∃ (cC : ClassId) (iS : Nat → Nat), ∀ q, vwCl[c]? = some q → u_Kn s q.1 q.2.1 q.2.2 cC iS := by
  intro c
  match c with
  | 0 =>
    obtain ⟨cC, iS, K⟩ := u_known (C := RJx4a65c) (T := TJx4a65c) (N := 3) (n := 3) hts (fun w hw => (ft_Jx4a65c.2.1 w hw).1) (hts _ (List.mem_of_getElem? (i := 488) (by decide +kernel)))
    exact ⟨cC, iS, fun q hq => by obtain rfl : (RJx4a65c, TJx4a65c, 3) = q := Option.some.inj hq; exact K⟩
  | 1 =>
    obtain ⟨cC, iS, K⟩ := u_known (C := RJx4a65c) (T := TJx4a65c) (N := 3) (n := 3) hts (fun w hw => (ft_Jx4a65c.2.1 w hw).1) (hts _ (List.mem_of_getElem? (i := 488) (by decide +kernel)))
    exact ⟨cC, iS, fun q hq => by obtain rfl : (RJx4a65c, TJx4a65c, 3) = q := Option.some.inj hq; exact K⟩
  | 2 =>
    obtain ⟨cC, iS, K⟩ := u_known (C := RX0) (T := TX0) (N := 7) (n := 7) hts (fun w hw => (ft_X0.2.1 w hw).1) (hts _ (List.mem_of_getElem? (i := 705) (by decide +kernel)))
    exact ⟨cC, iS, fun q hq => by obtain rfl : (RX0, TX0, 7) = q := Option.some.inj hq; exact K⟩
  | 3 =>
    obtain ⟨cC, iS, K⟩ := u_known (C := RX1) (T := TX1) (N := 5) (n := 5) hts (fun w hw => (ft_X1.2.1 w hw).1) (hts _ (List.mem_of_getElem? (i := 268) (by decide +kernel)))
    exact ⟨cC, iS, fun q hq => by obtain rfl : (RX1, TX1, 5) = q := Option.some.inj hq; exact K⟩
  | 4 =>
    obtain ⟨cC, iS, K⟩ := u_known (C := RX2) (T := TX2) (N := 6) (n := 6) hts (fun w hw => (ft_X2.2.1 w hw).1) (hts _ (List.mem_of_getElem? (i := 612) (by decide +kernel)))
    exact ⟨cC, iS, fun q hq => by obtain rfl : (RX2, TX2, 6) = q := Option.some.inj hq; exact K⟩
  | 5 =>
    obtain ⟨cC, iS, K⟩ := u_known (C := RX3) (T := TX3) (N := 5) (n := 5) hts (fun w hw => (ft_X3.2.1 w hw).1) (hts _ (List.mem_of_getElem? (i := 445) (by decide +kernel)))
    exact ⟨cC, iS, fun q hq => by obtain rfl : (RX3, TX3, 5) = q := Option.some.inj hq; exact K⟩
  | 6 =>
    obtain ⟨cC, iS, K⟩ := u_known (C := RX4) (T := TX4) (N := 10) (n := 10) hts (fun w hw => (ft_X4.2.1 w hw).1) (hts _ (List.mem_of_getElem? (i := 774) (by decide +kernel)))
    exact ⟨cC, iS, fun q hq => by obtain rfl : (RX4, TX4, 10) = q := Option.some.inj hq; exact K⟩
  | 7 =>
    obtain ⟨cC, iS, K⟩ := u_known (C := RX5) (T := TX5) (N := 3) (n := 3) hts (fun w hw => (ft_X5.2.1 w hw).1) (hts _ (List.mem_of_getElem? (i := 388) (by decide +kernel)))
    exact ⟨cC, iS, fun q hq => by obtain rfl : (RX5, TX5, 3) = q := Option.some.inj hq; exact K⟩
  | 8 =>
    obtain ⟨cC, iS, K⟩ := u_known (C := RX6) (T := TX6) (N := 10) (n := 10) hts (fun w hw => (ft_X6.2.1 w hw).1) (hts _ (List.mem_of_getElem? (i := 131) (by decide +kernel)))
    exact ⟨cC, iS, fun q hq => by obtain rfl : (RX6, TX6, 10) = q := Option.some.inj hq; exact K⟩
  | n + 9 =>
    have e : vwCl[n + 9]? = none := List.getElem?_eq_none_iff.mpr (show 9 ≤ n + 9 by omega)
    exact ⟨(0 : Nat), fun _ => 0, fun q hq => by rw [e] at hq; cases hq⟩
set_option maxRecDepth 100000 in
theorem str_ws : ∀ q ∈ strL, (Cond.stringRef q.1 q.2.1 q.2.2) ∈ lw_tbl ∧ (Cond.exactly (.string q.1 q.2.1) "java/lang/String") ∈ flatC (Jvm.Cond.and given_1 narrow_1) := by decide +kernel
set_option maxHeartbeats 4000000 in
set_option maxRecDepth 100000 in
theorem law_world {l : Launch} {s : State} {b : Nat} (hflags : l.flags = flags0) (hts : ∀ w ∈ lw_tbl, w.before #[Value.ref b] s = true) (hs : ∀ c ∈ flatC (Jvm.Cond.and given_1 narrow_1), c.before #[Value.ref b] s = true) : ∃ G : GG, CX l s #[Value.ref b] G ∧ ZR G 0 (oArr 0 (fun _ => none)) (G.2.2 0) s.heap := by
  have hK := cls_of hts
  obtain ⟨cI, kI, mI, i1, i2, i3⟩ := Cond.arrayClass_spec (hts _ ac_int.1)
  have hao : (Cond.arrayOver (.object "java/lang/Object")).before #[Value.ref b] s = true := hts _ (List.mem_of_getElem? (i := 691) (by decide +kernel))
  obtain ⟨mO, cO, kO, o1, -, o3, o4, o5⟩ := Cond.arrayOver_spec hao
  obtain ⟨m1, hm1⟩ := va_Mi.of (hs (Cond.isRef (.mirror "[Ljava/lang/Object;")) (by decide +kernel))
  obtain ⟨z0, y0, x0⟩ := zr_of (hs (Cond.exactly (.static "java/util/ArrayList" "DEFAULTCAPACITY_EMPTY_ELEMENTDATA" "[Ljava/lang/Object;") "[Ljava/lang/Object;") (by decide +kernel)) (hs (Cond.eq (.length (.static "java/util/ArrayList" "DEFAULTCAPACITY_EMPTY_ELEMENTDATA" "[Ljava/lang/Object;")) (.int 0)) (by decide +kernel)) o5
  obtain ⟨G, g1, g2, g5, g6, g8⟩ : ∃ G : GG, (∀ c q, vwCl[c]? = some q → u_Kn s q.1 q.2.1 q.2.2 (G.1.1 c) (G.1.2 c)) ∧ (G.2.1 0 = cI ∧ G.2.1 1 = cI ∧ G.2.1 2 = cI) ∧ G.2.1 3 = cO ∧ (G.2.2 0 = z0 ∧ G.2.2 1 = z0) ∧ G.2.2 2 = m1 ∧ G.2.2 3 = m1 :=
    ⟨((fun c => Classical.choose (hK c), fun c => Classical.choose (Classical.choose_spec (hK c))), (fun k => match k with | 0 => cI | 1 => cI | 2 => cI | _ => cO), fun k => match k with | 0 => z0 | 1 => z0 | _ => m1), fun c q hq => Classical.choose_spec (Classical.choose_spec (hK c)) q hq, ⟨rfl, rfl, rfl⟩, rfl, ⟨rfl, rfl⟩, rfl, rfl⟩
  have hA : ∀ a : Nat, a < s.heap.size → ¬ s.heap.size ≤ a := fun a h => Nat.not_le.mpr h
  refine ⟨G, ⟨?_, hts, ⟨g1, ?_⟩, ?_, ?_, ?_, ?_, va_AO.of hao, ?_, ?_, ?_⟩, ?_⟩
  · show (Launch.stackTraces l) = false
    unfold Launch.stackTraces
    rw [hflags]
    decide +kernel
  · intro k q hq
    match k, hq with
    | 0, hq =>
      obtain rfl : (G.2.1 0, FieldType.int) = q := Option.some.inj hq
      rw [g2.1]
      exact ⟨fun n z => ⟨fun k h => (by cases h), kI, i2, mI, i3⟩, i1⟩
    | 1, hq =>
      obtain rfl : (G.2.1 1, FieldType.int) = q := Option.some.inj hq
      rw [g2.2.1]
      exact ⟨fun n z => ⟨fun k h => (by cases h), kI, i2, mI, i3⟩, i1⟩
    | 2, hq =>
      obtain rfl : (G.2.1 2, FieldType.int) = q := Option.some.inj hq
      rw [g2.2.2]
      exact ⟨fun n z => ⟨fun k h => (by cases h), kI, i2, mI, i3⟩, i1⟩
    | 3, hq =>
      obtain rfl : (G.2.1 3, FieldType.object "java/lang/Object") = q := Option.some.inj hq
      rw [g5]
      exact ⟨fun n z => ⟨fun k h => (by cases h), kO, o3, mO, o4⟩, kO, mO, o3, o4, o1, o5⟩
    | n + 4, hq =>
      have e : (tyG G)[n + 4]? = none := List.getElem?_eq_none_iff.mpr (show 4 ≤ n + 4 by omega)
      rw [e] at hq
      cases hq
  · rw [g6.1]
    exact va_Zref (hts _ (List.mem_of_getElem? (i := 500) (by decide +kernel))) (hts _ (List.mem_of_getElem? (i := 27) (by decide +kernel))) y0 hA
  · rw [g6.2]
    exact va_Zref (hts _ (List.mem_of_getElem? (i := 500) (by decide +kernel))) (hts _ (List.mem_of_getElem? (i := 27) (by decide +kernel))) y0 hA
  · exact vx_Zqof (hts _ (List.mem_of_getElem? (i := 83) (by decide +kernel))) (hts _ (List.mem_of_getElem? (i := 30) (by decide +kernel))) (hs _ (by decide +kernel)) hA
  · exact vx_Zqof (hts _ (List.mem_of_getElem? (i := 85) (by decide +kernel))) (hts _ (List.mem_of_getElem? (i := 30) (by decide +kernel))) (hs _ (by decide +kernel)) hA
  · rw [g8.1]
    exact hm1
  · rw [g8.2]
    exact hm1
  · intro q hq
    obtain ⟨w1, w2⟩ := str_ws q hq
    obtain ⟨a, c9, cell, k9, e1, -⟩ := Cond.exactly_spec (hs _ w2)
    exact ⟨a, vk_R.of (hts _ w1) e1⟩
  · refine ⟨rfl, ⟨_, rfl⟩, ?_⟩
    rw [g6.1, g5]
    exact x0
set_option maxHeartbeats 4000000 in
set_option maxRecDepth 100000 in
/-- the end: true on the stack -/
theorem law_ret {p : Program} {l : Launch} {e : Env} {s : State} {m : MethodId} {below : List Frame} {meth : Method} {c : Code} {a0 : Array Value} {G : GG} {h0 h : AH} {b bc bs nL tg : Nat} {own : String} {L9 : List (Option Value)} (X : MX p l s m meth c s a0 G cL_law own nL) (hr : meth.sig.returnType = ret) : AW p l e room_1 s m #[.ref b] below meth c (lw_Z below #[Value.ref b] s) s G nL tg h0 h bc bs 1332 L9 [.int 1] := by
  intro H locs cells slots ls r f z hc hs hl
  have h1 : cells ≤ 600074 := Nat.le_trans (Nat.le_add_right _ _) hc
  have h2 : slots ≤ 7301550 := Nat.le_trans (Nat.le_add_right _ _) hs
  exact va_forget z.2.2 (W.widen h1 h2 (lw_ret (d0 := s.drawn) (Drawn.sameBut.refl s.drawn lw_cs) X.2.1 X.2.2.1 hr X.2.2.2.2.2.2 dL_law_1332))
set_option maxHeartbeats 4000000 in
set_option maxRecDepth 100000 in
theorem whole_start {p : Program} {e : Env} {s : State} {m : MethodId} {below : List Frame} {meth : Method} {c : Code} (l : Launch) (hflags : l.flags = flags0) {b L : Nat} {xs : Nat → Int32} (hL : L ≤ 260) (C0 : lw_At p s m meth c b L xs) : W p l e room_1 s m #[Value.ref b] below meth c s.heap [] 0 0 (lw_Z below #[Value.ref b] s) (entryFrame m ([Value.ref b] : List Value).toArray 19) := by
  obtain ⟨hx, hcb, hret, hml, hown, hts, hX, hbl, hlk, hgv⟩ := C0
  obtain ⟨G, hCX, hZ⟩ := law_world hflags hts (flat_of_before _ hgv)
  have X : MX p l s m meth c s #[Value.ref b] G cL_law "KelirnightLaw" 19 := ⟨hCX, hx, hcb, hml, hown, ⟨State.WarmedH.refl _, fun _ _ => rfl, Nat.le_refl _⟩, hlk⟩
  let h0 : AH := fun a => if a = G.2.2 0 then some (0, oArr 0 (fun _ => none)) else none
  have e0 : ∀ a t x, h0 a = some (t, x) → a = G.2.2 0 ∧ t = 0 ∧ x = oArr 0 (fun _ => none) := fun a t x q => by
    have q' : (if a = G.2.2 0 then some ((0 : Nat), oArr 0 (fun _ => none)) else none) = some (t, x) := q
    by_cases qa : a = G.2.2 0
    · rw [if_pos qa] at q'
      cases q'
      exact ⟨qa, rfl, rfl⟩
    · rw [if_neg qa] at q'
      cases q'
  have hrep : Rep G s.heap.size h0 s.heap := fun a t x q => by
    obtain ⟨qa, rfl, rfl⟩ := e0 a t x q
    subst qa
    exact Or.inr hZ
  have K := law_start (Q := lw_Z below #[Value.ref b] s) (e := e) (below := below) X (fun a t x q => (e0 a t x q).2.1) ⟨hX, hbl⟩ hL (if_pos rfl) (fun h bc bs L9 => law_ret X hret)
  have hl := lv_entry [Value.ref b] (n := 19) (Nat.le_of_ble_eq_true rfl)
  have K2 := K s.heap [] 0 0 _ hrep FrT.rf va_S.rf (Nat.le_of_ble_eq_true rfl) (Nat.le_of_ble_eq_true rfl) hl
  rw [← lg_entry_eq] at K2
  exact K2
set_option maxHeartbeats 4000000 in
theorem lw_walk (l : Launch) (hflags : l.flags = flags0) (b : Addr) (xs : List Int32) : MetFree l x (headSpec (Jvm.Cond.code x code maxLocals ret :: tables_1) room_1) (lw_P b xs) (fun _ _ _ _ _ => True) lw_Q := by
  refine MetFree.of_bodyS (code := code) (maxLocals := maxLocals) (ret := ret) (by decide) ?_ ?_
  · intro args s m h hn
    obtain ⟨meth, c, h1, h2, h3, h4, h5, h6, -, -⟩ := Cond.code_spec hn (atoms_spec (ws := Jvm.Cond.code x code maxLocals ret :: tables_1) h _ List.mem_cons_self)
    exact ⟨meth, c, h1, h2, h3, h4, h5, h6⟩
  · intro p e s m args below meth c s₁ B hml0 hP _
    obtain ⟨rfl, hx, hbd, hgv⟩ := hP
    obtain ⟨scr, harrAt, hlist, hof, hsmall⟩ := hx
    obtain ⟨hcb, hkn, -, -⟩ := State.arrayAt?_spec harrAt
    have hown : s.vm.findClass R_law = some m.cls := findClass_of_methodNamed B.named
    have hts0 : ∀ c ∈ (Jvm.Cond.code x code maxLocals ret :: tables_1), c.before #[Value.ref b] s = true := atoms_spec (ws := Jvm.Cond.code x code maxLocals ret :: tables_1) B.pre
    have hts : ∀ w ∈ lw_tbl, w.before #[Value.ref b] s = true := k2_hts_sels lw_privs (fun w hw => hts0 w (List.mem_cons_of_mem _ hw)) lw_privs_ok
    have hml : c.maxLocals = 19 := B.maxLocals_eq (hts0 _ List.mem_cons_self)
    have X₀ : Stand p l e room_1 s m #[Value.ref b] below meth c s₁ [] 0 0 := Stand.of_body B
    have hh0 : s₁.heap = s.heap := by rw [B.state]; rfl
    have hsz : scr.slots.size = xs.length := by rw [← Array.length_toList, hlist, List.length_map]
    have hval : ∀ j : Nat, j < xs.length → scr.slots[j]? = some (.int (xs.getD j 0)) := fun j hj => by
      rw [← Array.getElem?_toList, hlist]
      simp [hj]
    have hbl : b < s.heap.size := (Array.getElem?_eq_some_iff.mp hcb).1
    have hX : va_X b xs.length (fun j => xs.getD j 0) s s.heap := ⟨scr, hcb, hof, hkn, hsz, hval⟩
    have K : W p l e room_1 s m #[Value.ref b] below meth c s₁.heap [] 0 0 (lw_Z below #[Value.ref b] s) (entryFrame m ([Value.ref b] : List Value).toArray 19) := by
      rw [hh0]
      exact whole_start l hflags hbd ⟨B.exec, B.bytes, B.returns, hml, hown, hts, hX, hbl, B.notSynchronized, hgv⟩
    obtain ⟨t, a1, o, b1, b2, b3⟩ := K s₁ rfl X₀
    exact ⟨t, o, a1, b1, b2, b3⟩
theorem lw_pre_spec {args : Array Value} {s : State} (h : (Jvm.Cond.and given_1 narrow_1).before args s = true) (hr : rest_1_c.before args s = true) : ∃ (b : Addr) (xs : List Int32), lw_P b xs args s := by
  have hs := flat_of_before _ h
  have hq := flat_of_before _ hr
  have hc : (Cond.count 1).before args s = true := hs _ (by decide +kernel)
  have harr : (Cond.arrayOf (.arg 0) .int).before args s = true := hs _ (by decide +kernel)
  have hle : (Cond.le (.length (.arg 0)) (.int 260)).before args s = true := hs _ (by decide +kernel)
  have hlen : (Cond.isInt (.length (.arg 0))).before args s = true := hq _ (by decide +kernel)
  have hall : (Cond.all (.arg 0) (.isInt (.elem (.arg 0) (.index 0)))).before args s = true := hq _ (by decide +kernel)
  obtain ⟨b, xs, hb, hx⟩ := State.ints_of_pre rfl harr hlen hall
  have hsm : xs.length < 2 ^ 31 := hx.choose_spec.2.2.2
  have hev : (Term.length (.arg 0)).eval args s none [] s = some (.int xs.length.toInt32) := hx.length_eval hb
  have hv := Cond.le_ints hev (show (Term.int 260).eval args s none [] s = some (.int 260) from rfl)
  have hd : xs.length.toInt32 ≤ 260 := by
    simpa [Cond.before, Cond.holds, hv] using hle
  have hN : xs.length ≤ 260 := (Int32.ofNat_le_ofNat hsm (by decide)).mp (show Int32.ofNat xs.length ≤ Int32.ofNat 260 from hd)
  exact ⟨b, xs, Cond.one_arg hc (show args[0]? = some (.ref b) from hb), hx, hN, h⟩
theorem lw_comes (l : Launch) (hflags : l.flags = flags0) : Comes l x (Jvm.Cond.code x code maxLocals ret :: tables_1) room_1 (fun tb e args s => Calls_1 tb e args s ∧ rest_1 tb e args s ∧ Pre_1 tb e args s)
    (fun _ _ args s o t => lw_Q args s o t) := by
  intro p e ha hc hk s m args below hf hfit hheap happ hpre
  obtain ⟨b, xs, hP⟩ := lw_pre_spec hpre.2.2 hpre.2.1
  obtain ⟨k, o, h1, h2, h3, hQ⟩ := lw_walk l hflags b xs p e ha hc hk s m args below hf ((Spec.applies_iff_loose hf).mp happ).1 hP trivial
  exact ⟨k, o, h1, h2, h3, hQ⟩
theorem lw_frame {s t : State} {o : Outcome} {args : Array Value} (h : State.butDraws s t lw_cs (fun t1 => Framed s o t1 [] 600074 7301550)) :
    State.butDraws s t [Jvm.Choice.named "NaN.bits", Jvm.Choice.named "NaN.copy"] (fun t1 => Framed s o t1 (fieldLocs frame_1_writes args s ++ arrayLocs frame_1_arrays args s ++ staticLocs frame_1_statics s) 600074 7301550) := h
theorem lw_limb (L : Cond) (hL : ∀ (args : Array Value) (s t : State), L.after args s (.returned (some (.int 1))) t = true) :
    ArmFor flags0 classFile x code maxLocals ret World_1 tables_1 room_1 Calls_1 rest_1 Pre_1
      (fun tb e a s o t => postC L tb e a s o t ∧ State.butDraws s t [Jvm.Choice.named "NaN.bits", Jvm.Choice.named "NaN.copy"] (fun t1 => Framed s o t1 (fieldLocs frame_1_writes a s ++ arrayLocs frame_1_arrays a s ++ staticLocs frame_1_statics s) 600074 7301550)) := by
  intro l hflags _ _ p e ha hc hk s m args below hf hfit hheap happ hpre
  obtain ⟨k, o, h1, h2, h3, rfl, hF⟩ := lw_comes l hflags p e ha hc hk s m args below hf hfit hheap happ hpre
  exact ⟨k, _, h1, h2, h3, hL args s _, lw_frame hF⟩
theorem i_vc : Claimed_1_1 ∧ Claimed_1_2 := ⟨lw_limb limb_1_1 (fun args s t => by simp [limb_1_1, Cond.after, Cond.holds, Cond.value]), lw_limb limb_1_2 (fun args s t => Cond.after_iff.mpr (by
  first | (rw [show limb_1_2 = Cond.eq .result (.int 1) from rfl, Cond.eq_ints (x := 1) (y := 1) rfl rfl]; simp; done) | (simp [limb_1_2, Cond.value, Term.eval]; done)))⟩
