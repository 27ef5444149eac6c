/-! more rows; cells by their kinds -/
section AW2
variable {p : Program} {l : Launch} {e : Env} {R : Room} {s : State} {m : MethodId} {args : Array Value} {below : List Frame} {meth : Method} {c : Code} {Q : State → Prop} {s0 : State} {a0 : Array Value} {G : GG} {cc : ByteArray} {own : String} {nL tg : Nat} {h0 h : AH} {bc bs pc n : Nat} {L : List (Option Value)} {st : List Value}
theorem aw_lcmp (X : MX p l s m meth c s0 a0 G cc own nL) {x y : Int64} (hd : decode cc pc = .ok (.lcmp, 1)) (hn : pc + 1 = n) (k : AW p l e R s m args below meth c Q s0 G nL tg h0 h bc bs n L (.int (lg_cmp x y) :: st)) : AW p l e R s m args below meth c Q s0 G nL tg h0 h bc bs pc L (.long y :: .long x :: st) := fun H locs cells slots ls r f z hc hs hl => W.lcmp X.2.1 X.2.2.1 hd (by rw [hn]; exact k H locs cells slots ls r f z hc hs hl)
theorem aw_tswIn (X : MX p l s m meth c s0 a0 G cc own nL) {dflt lo hi off : Int} {offs : Array Int} {len : Nat} {x : Int32} (i : Nat) (hd : decode cc pc = .ok (.tableswitch dflt lo hi offs, len)) (h1 : x.toInt = lo + i) (h2 : lo + i ≤ hi) (ho : offs[i]? = some off) (ht : (pc : Int) + off = (n : Int)) (k : AW p l e R s m args below meth c Q s0 G nL tg h0 h bc bs n L st) : AW p l e R s m args below meth c Q s0 G nL tg h0 h bc bs pc L (.int x :: st) := fun H locs cells slots ls r f z hc hs hl => lv_tableIn X.2.1 X.2.2.1 hd (by omega) (by omega) (by rw [show (x.toInt - lo).toNat = i by omega]; exact ho) ht (k H locs cells slots ls r f z hc hs hl)
theorem aw_tswOut (X : MX p l s m meth c s0 a0 G cc own nL) {dflt lo hi : Int} {offs : Array Int} {len : Nat} {x : Int32} (hd : decode cc pc = .ok (.tableswitch dflt lo hi offs, len)) (h1 : x.toInt < lo ∨ hi < x.toInt) (ht : (pc : Int) + dflt = (n : Int)) (k : AW p l e R s m args below meth c Q s0 G nL tg h0 h bc bs n L st) : AW p l e R s m args below meth c Q s0 G nL tg h0 h bc bs pc L (.int x :: st) := fun H locs cells slots ls r f z hc hs hl => lv_tableOut X.2.1 X.2.2.1 hd h1 ht (k H locs cells slots ls r f z hc hs hl)
end AW2
/-- a loop of n rounds: its head at round k is A k -/
theorem aw_for {A : Nat → Prop} (n : Nat) (he : A n) (hs : ∀ k, k < n → A (k + 1) → A k) : ∀ k, k ≤ n → A k := by
  intro k hk
  obtain ⟨j, rfl⟩ : ∃ j, n = k + j := ⟨n - k, by omega⟩
  clear hk
  induction j generalizing k with
  | zero => exact he
  | succ j ih =>
    refine hs k (by omega) (ih (k + 1) ?_ ?_)
    · rw [show k + 1 + j = k + (j + 1) by omega]; exact he
    · intro q hq h
      exact hs q (by omega) h
/-- the cells of the class: by the values of their fields -/
abbrev vI (x : Int32) : Value := .int x
def oFig (f : Nat → Int32) : AE := .inr (2, [.int (f 0), .int (f 1), .int (f 2), .int (f 3), .int (f 4), .int (f 5), .int (f 6)])
def oOrc (f : Nat → Int32) : AE := .inr (3, [.int (f 0), .int (f 1), .int (f 2), .int (f 3), .int (f 4)])
def oPer (f : Nat → Int32) : AE := .inr (4, [.int (f 0), .int (f 1), .int (f 2), .int (f 3), .int (f 4), .int (f 5)])
def oScn (f : Nat → Int32) : AE := .inr (6, [.int (f 0), .int (f 1), .int (f 2), .int (f 3), .int (f 4), .int (f 5), .int (f 6), .int (f 7), .int (f 8), .int (f 9)])
def oArr (cap : Nat) (g : Nat → Option Nat) : AE := .inl (3, cap, .inr (.inr (.inr (.inr g))))
def oRow (n : Nat) (f : Nat → Int32) : AE := .inl (0, n, .inl f)
/-- a word of 32 bits, asked -/
def bI (c : Prop) [Decidable c] : Int32 := if c then 1 else 0
theorem bI_t {c : Prop} [Decidable c] (h : c) : bI c = 1 := if_pos h
theorem bI_f {c : Prop} [Decidable c] (h : ¬ c) : bI c = 0 := if_neg h
