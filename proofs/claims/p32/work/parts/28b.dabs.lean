/-! MATH.ABS OF A DOUBLE: the machine runs it by an entry of its own -/
def dbN : MethodName := ⟨"java/lang/Math", "abs", "(D)D"⟩
/-- that entry -/
def dbRow : NativeRow := (NativeRow.find? Jvm.Native.java_lang_Math.nans.rows dbN.cls dbN.name dbN.desc).get (by decide +kernel)
set_option maxRecDepth 100000 in
theorem db_find (p : Program) : NativeRow.find? p.tables.natives dbN.cls dbN.name dbN.desc = some dbRow := by
  cases p <;> rfl
abbrev dbV (a : UInt64) : UInt64 := a &&& 0x7fffffffffffffff
/-- of what is no NaN it answers the magnitude, and draws nothing -/
theorem db_run {a : UInt64} (ha : vf_n64 a) (e : Env) (S : State) : ∃ acts, (dbRow.sem #[.double a]).run e S = .ok (some (.double (dbV a))) S acts := by
  have hn : dbV a &&& 0x7fffffffffffffff ≤ 0x7ff0000000000000 := by
    show a &&& 0x7fffffffffffffff &&& 0x7fffffffffffffff ≤ 0x7ff0000000000000
    rw [UInt64.and_assoc, UInt64.and_self]
    exact ha
  have hw : wpRun (dbRow.sem #[.double a]) (fun v t _ => v = some (.double (dbV a)) ∧ t = S) (fun _ _ _ => False) e S := by
    show wpRun (anyNaN64 (dbV a) >>= _) _ _ e S
    simp [jvm, wpRun, anyNaN64, hn]
  have h2 := (wpRun_iff_run _ _ _ e S).mp hw
  generalize (dbRow.sem #[.double a]).run e S = res at h2
  match res, h2 with
  | .ok v t acts, h2 =>
    obtain ⟨e1, e2⟩ := h2
    exact ⟨acts, by rw [e1, e2]⟩
  | .ctl x t acts, h2 => cases x <;> exact h2.elim
set_option maxHeartbeats 4000000 in
/-- the call from the frame g: the callee's frame is laid, and gone with its first step -/
theorem db_step (p : Program) {e : Env} {below : List Frame} {u target : State} {g : JFrame} {c : Code} (h : At u g.method c below) (acts : List Action) {mk : MethodId} {mt : Method} {k : Class} {cm : Code} {a : UInt64} (ha : vf_n64 a)
    (hk : u.vm.classes[mk.cls]? = some k) (hx : k.methods[mk.idx]? = some mt) (hb : k.loader = none) (hkn : k.name = dbN.cls) (hmn : mt.name = dbN.name) (hmd : mt.desc = dbN.desc) (hsig : mt.sig.parameters.length = 1) (hst : mt.isStatic = true) (hc : mt.code = some cm) (hml : cm.maxLocals = 2) (hl : mt.locks = false)
    (hroom : e.platform.stackFull (((u.setTop g).threads[(u.setTop g).cur]?).getD { frames := [] }) (u.setTop g).frames 2 = false) {ig : Instr} {len : Nat} (hdg : decode c.code g.pc = .ok (ig, len))
    (hrest : Steps p.tables e below (u.setTop { g with pc := g.pc + len, stack := .double (dbV a) :: g.stack }) target) :
    Steps p.tables e below (doInvoke e (u.setTop g) acts mk #[.double a]).1 target := by
  obtain ⟨g0, h0⟩ := Option.isSome_iff_exists.mp h.top
  obtain ⟨r, hr⟩ := State.topJava?_eq_some.mp h0
  obtain ⟨mid, hmid⟩ := h.above
  have hcur : u.cur < u.threads.size := State.cur_lt_of_frames hr
  have htop : ∀ f : JFrame, u.setTop f = u.setFrames (.java f :: r) := fun f => State.setTop_of_frames f hr
  have hfr : ∀ F : List Frame, (u.setFrames F).frames = F := fun F => State.frames_setFrames F hcur
  have hmet : (u.setTop g).vm.method? mk = some mt := by
    rw [htop]
    show u.vm.method? mk = some mt
    simp [Vm.method?, hk, hx]
  rw [(doInvoke_java (s := u.setTop g) (acts := acts) (args := #[.double a]) hmet hc hl (by rw [hml]; exact hroom)).1, hml]
  -- the callee's frame
  obtain ⟨f1, hf1⟩ : ∃ f1 : JFrame, f1 = { method := mk, pc := 0, locals := argsToLocals #[.double a] 2, stack := [], locked := none } := ⟨_, rfl⟩
  rw [← hf1]
  have hlay : (u.setTop g).pushFrame (.java f1) = u.setFrames (.java f1 :: .java g :: r) := by
    unfold State.pushFrame
    rw [htop, hfr, State.setFrames_setFrames]
  rw [hlay]
  have hcls : ∀ F : List Frame, (u.setFrames F).vm.classes[mk.cls]? = some k := fun F => hk
  have hov : overridden p.tables e (u.setFrames (.java f1 :: .java g :: r)) f1 = some dbRow := by
    unfold overridden
    rw [show f1.pc = 0 by rw [hf1], show f1.method = mk by rw [hf1], hcls]
    have hin : overriddenIn.contains k.name = true := by rw [hkn]; decide
    simp only [bne_self_eq_false, Bool.false_eq_true, if_false, hin, Bool.true_or, Bool.not_true, hb, Option.isSome_none, Bool.or_self, hx, hkn, hmn, hmd]
    exact db_find p
  obtain ⟨acts2, hrun⟩ := db_run ha e (u.setFrames (.native { method := mk, args := #[.double a], locked := none } :: .java g :: r))
  have hgo : (stepThread p.tables e (u.setFrames (.java f1 :: .java g :: r))).1 = u.setTop { g with pc := g.pc + len, stack := .double (dbV a) :: g.stack } := by
    have hn : argCount (u.setFrames (.java f1 :: .java g :: r)) f1.method = 1 := by
      unfold argCount
      rw [show f1.method = mk by rw [hf1], hcls]
      show (match (some k).bind (fun y => y.methods[mk.idx]?) with | some x => x.sig.parameters.length + (if x.isStatic then 0 else 1) | none => 0) = 1
      simp [hx, hsig, hst]
    have hgiven : ∀ φ : Slot → Option Value, φ (.val (.double a)) = some (.double a) → φ .second = none → (f1.locals.toList.filterMap φ).toArray.extract 0 1 = #[.double a] := fun φ e1 e2 => by
      rw [hf1]
      show (([Slot.val (.double a), Slot.second] : List Slot).filterMap φ).toArray.extract 0 1 = #[.double a]
      simp [List.filterMap, e1, e2]
    have hcode : ∀ F : List Frame, (u.setFrames F).code? g.method = some c := fun F => by
      have h9 := h.code
      rw [State.code?_eq] at h9 ⊢
      exact h9
    unfold stepThread
    rw [hfr]
    simp only [hov]
    rw [hn, hgiven]
    · rw [show f1.method = mk by rw [hf1], show f1.locked = none by rw [hf1], State.setFrames_setFrames, hrun]
      show (doReturn e (u.setFrames (.native { method := mk, args := #[.double a], locked := none } :: .java g :: r)) acts2 (some (.double (dbV a)))).1 = _
      rw [doReturn_native (fs := .java { g with pc := g.pc + len, stack := .double (dbV a) :: g.stack } :: r) (hfr _) rfl (by simp [handOver, hcode, hdg, Except.toOption]), State.setFrames_setFrames, ← htop]
    · rfl
    · rfl
  refine Steps.head ⟨h.running, by simpa using h.runnable, by simpa using h.alone⟩ ⟨.java f1 :: .java g :: mid, ?_, by simp, by simp⟩ ?_
  · rw [hfr]
    rw [hr] at hmid
    simp at hmid
    simp [hmid]
  · rw [hgo]
    exact hrest
section DAB
variable {p : Program} {l : Launch} {e : Env} {R : Room} {s : State} {m : MethodId} {args : Array Value} {below : List Frame} {meth : Method} {c : Code} {Q : State → Prop} {s0 : State} {a0 : Array Value} {G : GG} {cc : ByteArray} {own : String} {nL tg : Nat} {h0 h : AH} {bc bs pc n : Nat} {L : List (Option Value)} {st : List Value}
/-- Math.abs of a double that is no NaN -/
theorem aw_dabs (X : MX p l s m meth c s0 a0 G cc own nL) {index : Nat} {x : UInt64} (hN : vf_n64 x) (hd : decode cc pc = .ok (.invokestatic index, 3)) (hn : pc + 3 = n) (hw : TW (.methodLink own index yJ9_abs_294c1)) (hR : 1 ≤ R.frames) (hR2 : (st.map fun v => v.category).sum + 13 ≤ R.locals) (k : AW p l e R s m args below meth c Q s0 G nL tg h0 h bc bs n L (.double (x &&& 0x7fffffffffffffff) :: st)) : AW p l e R s m args below meth c Q s0 G nL tg h0 h bc bs pc L (.double x :: st) := by
  intro H locs cells slots ls r f z hc hs hl T hT Xs
  subst hn
  have hcd := X.tw (args := args) cmJ9_abs_294c1.1.1
  have hsd := X.tw (args := args) cmJ9_abs_294c1.2
  have one : ∀ {sg}, parseMethodDescriptor yJ9_abs_294c1.desc = some sg → sg.parameters.length = 1 := fun {sg} q => by
    rw [show parseMethodDescriptor yJ9_abs_294c1.desc = some ⟨[.double], some .double⟩ from by decide +kernel] at q
    rw [← Option.some.inj q]
    rfl
  obtain ⟨mk, hnm⟩ := Cond.code_named hcd
  obtain ⟨mt, cm, hmt, -, -, -, -, -, -, hsig⟩ := Cond.code_spec hnm hcd
  obtain ⟨kP, hkP, -⟩ := className_of_methodNamed hnm
  obtain ⟨vm', X2, step⟩ := Xs.invokestatic X.2.1 X.2.2.2.2.1 (X.tw hw) hnm hmt (Cond.static_spec hnm hmt hsd) hkP (Cond.initialized_spec (findClass_of_methodNamed hnm) hkP (X.tw (args := args) cmJ9_abs_294c1.1.2.1)) (by decide) (g := F0 m pc ls (.double x :: st)) rfl (argsL := [.double x]) (rest := st) (by rw [one hsig]; rfl) rfl (by rw [X.2.2.1]; exact hd)
  -- the same of the state behind the link
  have hcd2 : (Cond.code yJ9_abs_294c1 cJ9_abs_294c1 2 (some .double)).before args (T.setVm vm') = true := Cond.tabsOnly_warm (args' := args) (T := T.setVm vm') X2.warmed _ rfl hcd
  have hsd2 : (Cond.static yJ9_abs_294c1).before args (T.setVm vm') = true := Cond.tabsOnly_warm (args' := args) (T := T.setVm vm') X2.warmed _ rfl hsd
  have hnm2 := X2.named hnm
  obtain ⟨mt2, cm2, hmt2, hcm2, -, hml2, -, hlk2, -, hsig2⟩ := Cond.code_spec hnm2 hcd2
  obtain ⟨k2, hk2, hkn2⟩ := className_of_methodNamed hnm2
  obtain ⟨hmn2, hmd2⟩ := name_of_methodNamed hnm2 hmt2
  have hx2 : k2.methods[mk.idx]? = some mt2 := by
    have h9 := hmt2
    unfold Vm.method? at h9
    rw [hk2] at h9
    exact h9
  obtain ⟨t, a1, b1⟩ := k H locs cells slots ls r f z hc hs hl (T.setVm vm') hT X2
  refine ⟨t, step t (fun acts => ?_), b1⟩
  exact db_step p (g := F0 m pc ls st) X2.here acts hN hk2 hx2 (Vm.bootOf_findClass (findClass_of_methodNamed hnm2) hk2) hkn2 hmn2 hmd2 (one hsig2) (Cond.static_spec hnm2 hmt2 hsd2) hcm2 hml2 hlk2
    (X2.notFull (g := F0 m pc ls st) (by rw [X.2.2.2.1]; exact hl.1) hR (by show 2 * 0 + (st.map fun v => v.category).sum + (2 + 11) ≤ R.locals; omega)) (by rw [X.2.2.1]; exact hd) a1
end DAB
