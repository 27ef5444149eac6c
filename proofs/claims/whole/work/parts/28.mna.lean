/-! TABLES OF TABLES: multianewarray of two dimensions -/
theorem ao_moved {u U : State} (hvm : u.vm.Alike U.vm) (h : (Cond.arrayOver (.array .int)).before #[] u = true) : (Cond.arrayOver (.array .int)).before #[] U = true := by
  have e : (Cond.arrayOver (.array .int)).before #[] (u.setVm U.vm) = true := (Cond.arrayOver_setVmC hvm _).trans h
  exact e
section MNA
variable {p : Program} {l : Launch} {e : Env} {R : Room} {s : State} {m : MethodId} {args : Array Value} {below : List Frame} {meth : Method} {c : Code} {Q : State → Prop} {s0 : State} {a0 : Array Value} {G : GG} {cc : ByteArray} {own : String} {nL tg : Nat} {h0 h : AH} {bc bs pc n : Nat} {L : List (Option Value)} {st : List Value}
def oTab (N : Nat) (r : Nat → Nat) : AE := .inl (2, N, .inr (.inr (.inr (.inr (fun i => if i < N then some (r i) else none)))))
theorem aw_mna (X : MX p l s m meth c s0 a0 G cc own nL) {index N K : Nat} {i j : Int32} (hd : decode cc pc = .ok (.multianewarray index 2, 4)) (hn : pc + 4 = n) (hw : TW (.classLink own index "[[I")) (ho : (Cond.arrayOver (.array .int)) ∈ lw_tbl) (ha : TW (.arrayClass .int)) (hi : i = nI N) (hj : j = nI K) (hN : N < 1000) (hK : K < 1000)
    (k : ∀ (q : Nat) (r : Nat → Nat) (h2 : AH), h q = none → (∀ a c, h a = some c → h2 a = some c) → h2 q = some (tg, oTab N r) → (∀ i, i < N → h2 (r i) = some (tg, oRow K (fun _ => 0))) → (∀ i j, i < N → j < N → r i = r j → i = j) → (∀ i, i < N → h (r i) = none) → AW p l e R s m args below meth c Q s0 G nL tg h0 h2 bc bs n L (.ref q :: st)) : AW p l e R s m args below meth c Q s0 G nL tg h0 h (bc + (1 + N)) (bs + (N + N * K)) pc L (.int j :: .int i :: st) := by
  intro H locs cells slots ls r f z hc hs hl
  subst hi hj
  intro T hT Xs
  have eN : (nI N).toNatClampNeg = N := nI_clamp (by omega)
  have eK : (nI K).toNatClampNeg = K := nI_clamp (by omega)
  have hover : (Cond.arrayOver (.array .int)).before args s = true := ao_moved X.2.2.2.2.2.1.1.alike (X.1.2.1 _ ho)
  obtain ⟨vm₁, cA, comp, -, fA, fC, hO, -, X', step⟩ := Xs.multianewarray2F X.2.1 (ty := .int) X.2.2.2.2.1 (X.tw hw) hover (X.tw ha) (g := F0 m pc ls (.int (nI K) :: .int (nI N) :: st)) rfl (by rw [X.2.2.1]; exact hd) rfl (nI_pos (by omega)) (nI_pos (by omega)) (by rw [eN]; omega) (by rw [eK]; show K * 4 ≤ _; omega) (by rw [eK]; omega) rfl rfl (by rw [eN]; omega) (by rw [eN, eK]; omega)
  rw [eN, eK] at X' step
  have ec : cA = G.2.1 2 := Option.some.inj (fA.symm.trans (X.kk.2 2 _ rfl).2)
  have ed : comp = G.2.1 0 := Option.some.inj (fC.symm.trans (X.kk.2 0 _ rfl).2)
  subst ec ed
  have hTh : (T.setVm vm₁).heap = H := hT
  obtain ⟨f1, f2, -, -⟩ := Jvm.Free.Multi.fill_facts (T.setVm vm₁) (G.2.1 2) (G.2.1 0) N K (defaultValue .int) N
  have fo9 : ∀ x : Nat, x < H.size → (Jvm.Free.Multi.fill (T.setVm vm₁) (G.2.1 2) (G.2.1 0) N K (defaultValue .int) N).heap[x]? = H[x]? := fun x hx => by
    have h9 := Jvm.Free.Multi.fill_old (T.setVm vm₁) (G.2.1 2) (G.2.1 0) N K (defaultValue .int) (a := x) (by rw [hTh]; exact hx) N
    rw [hTh] at h9
    exact h9
  have fi9 : ∀ y : Nat, y < N → (Jvm.Free.Multi.fill (T.setVm vm₁) (G.2.1 2) (G.2.1 0) N K (defaultValue .int) N).heap[H.size + 1 + y]? = some (vp_cell (G.2.1 0) (K, .inl (fun _ => 0))) := fun y hy => by
    have h9 := Jvm.Free.Multi.fill_inner (T.setVm vm₁) (G.2.1 2) (G.2.1 0) N K (defaultValue .int) N y hy
    rw [hTh] at h9
    rw [h9]
    show some ({ cls := G.2.1 0, slots := Array.replicate K (.int 0), vm := .none } : Cell) = _
    rw [arrV_new]
    rfl
  rw [hTh, vr_outer] at f2
  rw [hTh] at f1
  generalize hF : Jvm.Free.Multi.fill (T.setVm vm₁) (G.2.1 2) (G.2.1 0) N K (defaultValue .int) N = F at X' step f1 f2 fo9 fi9
  have hbig := X.big z
  have hnH : ∀ a c, h a = some c → a < H.size := fun a c e9 => r.lt e9
  refine (?_ : ∃ t, Steps p.tables e below (T.setTop _) t ∧ Q t)
  let h2 : AH := fun b => if b = H.size then some (tg, oTab N (fun i => H.size + 1 + i)) else if H.size + 1 ≤ b ∧ b < H.size + 1 + N then some (tg, oRow K (fun _ => 0)) else h b
  have e1 : ∀ a c, h a = some c → h2 a = some c := fun a c e9 => by
    have := hnH a c e9
    show (if a = H.size then _ else if _ then _ else _) = _
    rw [if_neg (by omega), if_neg (by omega)]
    exact e9
  have e2 : h2 H.size = some (tg, oTab N (fun i => H.size + 1 + i)) := if_pos rfl
  have e3 : ∀ i, i < N → h2 (H.size + 1 + i) = some (tg, oRow K (fun _ => 0)) := fun i hi => by
    show (if _ then _ else if _ then _ else _) = _
    rw [if_neg (by omega), if_pos (by omega)]
  have rep : Rep G s0.heap.size h2 F.heap := fun a t9 x e9 => by
    have e8 : (if a = H.size then some (tg, oTab N (fun i => H.size + 1 + i)) else if H.size + 1 ≤ a ∧ a < H.size + 1 + N then some (tg, oRow K (fun _ => 0)) else h a) = some (t9, x) := e9
    by_cases q1 : a = H.size
    · rw [if_pos q1] at e8
      cases e8
      refine Or.inl ⟨?_, fun _ => by omega⟩
      rw [q1]
      show F.heap[H.size]? = some (vp_cell _ _)
      rw [f2, vp_cell_q]
    · rw [if_neg q1] at e8
      by_cases q2 : H.size + 1 ≤ a ∧ a < H.size + 1 + N
      · rw [if_pos q2] at e8
        cases e8
        refine Or.inl ⟨?_, fun _ => by omega⟩
        have h9 := fi9 (a - (H.size + 1)) (by omega)
        rw [show H.size + 1 + (a - (H.size + 1)) = a by omega] at h9
        exact h9
      · rw [if_neg q2] at e8
        exact r.kpt e8 (fo9 a (r.lt e8))
  have kk := k H.size (fun i => H.size + 1 + i) h2 r.fresh e1 e2 e3 (fun i j _ _ e9 => by omega) (fun i _ => by
    cases e9 : h (H.size + 1 + i) with
    | none => rfl
    | some c9 => exact absurd (r.lt e9) (by omega)) F.heap locs (cells + 1 + N) (slots + N + N * K) ls rep ⟨fun a t9 x e9 ne => e1 a _ (f.1 a t9 x e9 ne), fun a e9 => by
    cases q : h a with
    | none => exact absurd q (f.2 a e9)
    | some c9 => rw [e1 a c9 q]; exact fun z9 => by cases z9⟩ ⟨by rw [f1]; have := z.1; omega, fun q h1 h2 => (fo9 q (Nat.lt_of_lt_of_le h1 z.1)).trans (z.2.1 q h1 h2), z.2.2⟩ (by omega) (by omega) hl
  obtain ⟨t, a1, b1⟩ := kk F rfl X'
  refine ⟨t, step t ?_, b1⟩
  rw [show T.heap.size = H.size by rw [hT]]
  rw [← hn] at a1
  exact a1
end MNA
theorem mna_ok : TW (.classLink RX7 46 "[[I") ∧ (Cond.arrayOver (.array .int)) ∈ lw_tbl ∧ TW (.arrayClass .int) := ⟨⟨List.mem_of_getElem? (i := 1106) (by decide +kernel), by decide +kernel⟩, List.mem_of_getElem? (i := 1107) (by decide +kernel), ⟨List.mem_of_getElem? (i := 1075) (by decide +kernel), by decide +kernel⟩⟩
