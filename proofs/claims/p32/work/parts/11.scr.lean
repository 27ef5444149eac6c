/-! THE SCREEN, THE ORCHESTRA: the class's methods over the store; rows of numbers as the reference has them (figure: 0 its person, 1 height, 2 wear, 3 where, 4 place, 5 lifted) -/
abbrev holdsP (set x : Int32) : Prop := 0 ≤ x ∧ x < 31 ∧ (set >>> (x &&& 31)) &&& 1 = 1
abbrev reachP (hd pl : Int32) : Prop := if hd = 2 then pl ≤ 5 else 4 ≤ pl
def cFig (sd : Int32) (r : Nat → Int32) : AE := .inr (2, [.int (r 0), .int sd, .int (r 1), .int (r 2), .int (r 3), .int (r 4), .int (r 5)])
/-- a running answer over the rounds -/
def fo {α : Type} (g : Nat → α → α) (a : α) : Nat → α
  | 0 => a
  | k + 1 => g k (fo g a k)
/-- the first place of j from k on, or -1 -/
def ff (p : Nat → Prop) [DecidablePred p] : Nat → Nat → Int32
  | 0, _ => -1
  | j + 1, k => if p k then nI k else ff p j (k + 1)
def cyc (m : Int32) : Int32 := if m = 0 then 8 else if m = 1 then 16 else if m = 2 then 12 else 32
def wearR (r : Nat → Int32) (x : Int32) : Nat → Int32 := upd r 2 (if r 2 + x < 100 then r 2 + x else 100)
def shad (r : Nat → Int32) (di x : Int32) : Int32 := if 0 < di - x then r 1 * di / (di - x) else 0

set_option maxHeartbeats 4000000 in
set_option maxRecDepth 100000 in
theorem k_X6_outside {l : Launch} {s0 : State} {a0 : Array Value} {G : GG} (X : CX l s0 a0 G) {h : AH} {tg : Nat} (v a b : Int32) : Con l s0 G yX6_outside cX6_outside 3 (some .boolean) 0 0 0 tg [.int v, .int a, .int b] h (RS (.int (bI (v < a ∨ b < v))) h) := by
  refine Con.of X (by decide +kernel) [some (.int v), some (.int a), some (.int b)] rfl (Nat.le_of_ble_eq_true rfl) (fun p e s m below meth c X hnm hret => ?_)
  refine aw_ild0 X dX6_outside_0 rfl ?_
  refine aw_ild1 X dX6_outside_1 rfl ?_
  refine aw_icmp_lt (n2 := 10) X dX6_outside_2 rfl rfl (fun c2 => ?_) (fun c2 => ?_)
  · refine aw_iconst X (1) dX6_outside_10 (by decide) rfl ?_
    refine aw_goto (n := 15) X dX6_outside_11 rfl ?_
    exact aw_iret X hret rfl dX6_outside_15 (⟨by first | (simp_all [bI, bI_0, bI_ne, Int32.not_lt, Int32.not_le]; done) | grind [bI, bI_0, bI_ne], rfl⟩)
  · refine aw_ild0 X dX6_outside_5 rfl ?_
    refine aw_ild2 X dX6_outside_6 rfl ?_
    refine aw_icmp_le (n2 := 14) X dX6_outside_7 rfl rfl (fun c7 => ?_) (fun c7 => ?_)
    · refine aw_iconst X (0) dX6_outside_14 (by decide) rfl ?_
      exact aw_iret X hret rfl dX6_outside_15 (⟨by first | (simp_all [bI, bI_0, bI_ne, Int32.not_lt, Int32.not_le]; done) | grind [bI, bI_0, bI_ne], rfl⟩)
    · refine aw_iconst X (1) dX6_outside_10 (by decide) rfl ?_
      refine aw_goto (n := 15) X dX6_outside_11 rfl ?_
      exact aw_iret X hret rfl dX6_outside_15 (⟨by first | (simp_all [bI, bI_0, bI_ne, Int32.not_lt, Int32.not_le]; done) | grind [bI, bI_0, bI_ne], rfl⟩)

set_option maxHeartbeats 4000000 in
set_option maxRecDepth 100000 in
theorem k_X6_holds {l : Launch} {s0 : State} {a0 : Array Value} {G : GG} (X : CX l s0 a0 G) {h : AH} {tg : Nat} (set x : Int32) : Con l s0 G yX6_holds cX6_holds 2 (some .boolean) 0 0 0 tg [.int set, .int x] h (RS (.int (bI (holdsP set x))) h) := by
  refine Con.of X (by decide +kernel) [some (.int set), some (.int x)] rfl (Nat.le_of_ble_eq_true rfl) (fun p e s m below meth c X hnm hret => ?_)
  refine aw_ild1 X dX6_holds_0 rfl ?_
  refine aw_if_lt (n2 := 23) X dX6_holds_1 rfl rfl (fun c1 => ?_) (fun c1 => ?_)
  · refine aw_iconst X (0) dX6_holds_23 (by decide) rfl ?_
    exact aw_iret X hret rfl dX6_holds_24 (⟨by first | (simp_all [bI, holdsP, bI_0, bI_ne, Int32.not_lt, Int32.not_le]; done) | grind [bI, bI_0, bI_ne], rfl⟩)
  · refine aw_ild1 X dX6_holds_4 rfl ?_
    refine aw_bipush X (31) dX6_holds_5 (by decide) rfl ?_
    refine aw_icmp_ge (n2 := 23) X dX6_holds_7 rfl rfl (fun c7 => ?_) (fun c7 => ?_)
    · refine aw_iconst X (0) dX6_holds_23 (by decide) rfl ?_
      exact aw_iret X hret rfl dX6_holds_24 (⟨by first | (simp_all [bI, holdsP, bI_0, bI_ne, Int32.not_lt, Int32.not_le]; done) | grind [bI, bI_0, bI_ne], rfl⟩)
    · refine aw_ild0 X dX6_holds_10 rfl ?_
      refine aw_ild1 X dX6_holds_11 rfl ?_
      refine aw_ishr X dX6_holds_12 rfl ?_
      refine aw_iconst X (1) dX6_holds_13 (by decide) rfl ?_
      refine aw_iand X dX6_holds_14 rfl ?_
      refine aw_iconst X (1) dX6_holds_15 (by decide) rfl ?_
      refine aw_icmp_ne (n2 := 23) X dX6_holds_16 rfl rfl (fun c16 => ?_) (fun c16 => ?_)
      · refine aw_iconst X (0) dX6_holds_23 (by decide) rfl ?_
        exact aw_iret X hret rfl dX6_holds_24 (⟨by first | (simp_all [bI, holdsP, bI_0, bI_ne, Int32.not_lt, Int32.not_le]; done) | grind [bI, bI_0, bI_ne], rfl⟩)
      · refine aw_iconst X (1) dX6_holds_19 (by decide) rfl ?_
        refine aw_goto (n := 24) X dX6_holds_20 rfl ?_
        exact aw_iret X hret rfl dX6_holds_24 (⟨by first | (simp_all [bI, holdsP, bI_0, bI_ne, Int32.not_lt, Int32.not_le]; done) | grind [bI, bI_0, bI_ne], rfl⟩)

set_option maxHeartbeats 4000000 in
set_option maxRecDepth 100000 in
theorem k_X6_edge {l : Launch} {s0 : State} {a0 : Array Value} {G : GG} (X : CX l s0 a0 G) {h : AH} {tg : Nat} (x : Int32) : Con l s0 G yX6_edge cX6_edge 1 (some .int) 0 0 0 tg [.int x] h (RS (.int (if x = 0 then 0 else 9)) h) := by
  refine Con.of X (by decide +kernel) [some (.int x)] rfl (Nat.le_of_ble_eq_true rfl) (fun p e s m below meth c X hnm hret => ?_)
  refine aw_ild0 X dX6_edge_0 rfl ?_
  refine aw_if_ne (n2 := 8) X dX6_edge_1 rfl rfl (fun c1 => ?_) (fun c1 => ?_)
  · refine aw_bipush X (9) dX6_edge_8 (by decide) rfl ?_
    exact aw_iret X hret rfl dX6_edge_10 (⟨by first | (simp_all [bI_0, bI_ne, Int32.not_lt, Int32.not_le]; done) | grind [bI, bI_0, bI_ne], rfl⟩)
  · refine aw_iconst X (0) dX6_edge_4 (by decide) rfl ?_
    refine aw_goto (n := 10) X dX6_edge_5 rfl ?_
    exact aw_iret X hret rfl dX6_edge_10 (⟨by first | (simp_all [bI_0, bI_ne, Int32.not_lt, Int32.not_le]; done) | grind [bI, bI_0, bI_ne], rfl⟩)

set_option maxHeartbeats 4000000 in
set_option maxRecDepth 100000 in
theorem k_X6_reaches {l : Launch} {s0 : State} {a0 : Array Value} {G : GG} (X : CX l s0 a0 G) {h : AH} {tg : Nat} (hd pl : Int32) : Con l s0 G yX6_reaches cX6_reaches 2 (some .boolean) 0 0 0 tg [.int hd, .int pl] h (RS (.int (bI (reachP hd pl))) h) := by
  refine Con.of X (by decide +kernel) [some (.int hd), some (.int pl)] rfl (Nat.le_of_ble_eq_true rfl) (fun p e s m below meth c X hnm hret => ?_)
  refine aw_ild0 X dX6_reaches_0 rfl ?_
  refine aw_iconst X (2) dX6_reaches_1 (by decide) rfl ?_
  refine aw_icmp_ne (n2 := 18) X dX6_reaches_2 rfl rfl (fun c2 => ?_) (fun c2 => ?_)
  · refine aw_ild1 X dX6_reaches_18 rfl ?_
    refine aw_iconst X (4) dX6_reaches_19 (by decide) rfl ?_
    refine aw_icmp_lt (n2 := 27) X dX6_reaches_20 rfl rfl (fun c20 => ?_) (fun c20 => ?_)
    · refine aw_iconst X (0) dX6_reaches_27 (by decide) rfl ?_
      exact aw_iret X hret rfl dX6_reaches_28 (⟨by first | (simp_all [bI, reachP, bI_0, bI_ne, Int32.not_lt, Int32.not_le]; done) | grind [bI, bI_0, bI_ne], rfl⟩)
    · refine aw_iconst X (1) dX6_reaches_23 (by decide) rfl ?_
      refine aw_goto (n := 28) X dX6_reaches_24 rfl ?_
      exact aw_iret X hret rfl dX6_reaches_28 (⟨by first | (simp_all [bI, reachP, bI_0, bI_ne, Int32.not_lt, Int32.not_le]; done) | grind [bI, bI_0, bI_ne], rfl⟩)
  · refine aw_ild1 X dX6_reaches_5 rfl ?_
    refine aw_iconst X (5) dX6_reaches_6 (by decide) rfl ?_
    refine aw_icmp_gt (n2 := 14) X dX6_reaches_7 rfl rfl (fun c7 => ?_) (fun c7 => ?_)
    · refine aw_iconst X (0) dX6_reaches_14 (by decide) rfl ?_
      refine aw_goto (n := 28) X dX6_reaches_15 rfl ?_
      exact aw_iret X hret rfl dX6_reaches_28 (⟨by first | (simp_all [bI, reachP, bI_0, bI_ne, Int32.not_lt, Int32.not_le]; done) | grind [bI, bI_0, bI_ne], rfl⟩)
    · refine aw_iconst X (1) dX6_reaches_10 (by decide) rfl ?_
      refine aw_goto (n := 28) X dX6_reaches_11 rfl ?_
      exact aw_iret X hret rfl dX6_reaches_28 (⟨by first | (simp_all [bI, reachP, bI_0, bI_ne, Int32.not_lt, Int32.not_le]; done) | grind [bI, bI_0, bI_ne], rfl⟩)

set_option maxHeartbeats 4000000 in
set_option maxRecDepth 100000 in
theorem k_X6_rightLevel {l : Launch} {s0 : State} {a0 : Array Value} {G : GG} (X : CX l s0 a0 G) {h : AH} {tg : Nat} (r q : Int32) : Con l s0 G yX6_rightLevel cX6_rightLevel 2 (some .int) 0 0 0 tg [.int r, .int q] h (RS (.int (if r < q then 1 else if q < r then -1 else 0)) h) := by
  refine Con.of X (by decide +kernel) [some (.int r), some (.int q)] rfl (Nat.le_of_ble_eq_true rfl) (fun p e s m below meth c X hnm hret => ?_)
  refine aw_ild1 X dX6_rightLevel_0 rfl ?_
  refine aw_ild0 X dX6_rightLevel_1 rfl ?_
  refine aw_icmp_le (n2 := 7) X dX6_rightLevel_2 rfl rfl (fun c2 => ?_) (fun c2 => ?_)
  · refine aw_ild1 X dX6_rightLevel_7 rfl ?_
    refine aw_ild0 X dX6_rightLevel_8 rfl ?_
    refine aw_icmp_ge (n2 := 16) X dX6_rightLevel_9 rfl rfl (fun c9 => ?_) (fun c9 => ?_)
    · refine aw_iconst X (0) dX6_rightLevel_16 (by decide) rfl ?_
      exact aw_iret X hret rfl dX6_rightLevel_17 (⟨by first | (simp_all [bI_0, bI_ne, Int32.not_lt, Int32.not_le]; done) | grind [bI, bI_0, bI_ne], rfl⟩)
    · refine aw_iconst X (-1) dX6_rightLevel_12 (by decide) rfl ?_
      refine aw_goto (n := 17) X dX6_rightLevel_13 rfl ?_
      exact aw_iret X hret rfl dX6_rightLevel_17 (⟨by first | (simp_all [bI_0, bI_ne, Int32.not_lt, Int32.not_le]; done) | grind [bI, bI_0, bI_ne], rfl⟩)
  · refine aw_iconst X (1) dX6_rightLevel_5 (by decide) rfl ?_
    exact aw_iret X hret rfl dX6_rightLevel_6 (⟨by first | (simp_all [bI_0, bI_ne, Int32.not_lt, Int32.not_le]; done) | grind [bI, bI_0, bI_ne], rfl⟩)

set_option maxHeartbeats 4000000 in
set_option maxRecDepth 100000 in
theorem k_X6_isPlace {l : Launch} {s0 : State} {a0 : Array Value} {G : GG} (X : CX l s0 a0 G) {h : AH} {tg : Nat} (v : Int32) : Con l s0 G yX6_isPlace cX6_isPlace 1 (some .boolean) 1 0 0 tg [.int v] h (RS (.int (bI (0 ≤ v ∧ v ≤ 9))) h) := by
  refine Con.of X (by decide +kernel) [some (.int v)] rfl (Nat.le_of_ble_eq_true rfl) (fun p e s m below meth c X hnm hret => ?_)
  refine aw_ild0 X dX6_isPlace_0 rfl ?_
  refine aw_iconst X (0) dX6_isPlace_1 (by decide) rfl ?_
  refine aw_bipush X (9) dX6_isPlace_2 (by decide) rfl ?_
  refine aw_callS X dX6_isPlace_4 rfl (k_X6_outside X.1 v 0 9) cmX6_outside ml_X6_52 rfl rfl (Nat.le_of_ble_eq_true rfl) ⟨Nat.le_of_ble_eq_true rfl, Nat.le_of_ble_eq_true rfl⟩ (aw_rs ?_)
  refine aw_if_ne (n2 := 14) X dX6_isPlace_7 rfl rfl (fun c7 => ?_) (fun c7 => ?_)
  · refine aw_iconst X (0) dX6_isPlace_14 (by decide) rfl ?_
    exact aw_iret X hret rfl dX6_isPlace_15 (⟨by first | (simp_all [bI, bI_0, bI_ne, Int32.not_lt, Int32.not_le]; done) | grind [bI, bI_0, bI_ne], rfl⟩)
  · refine aw_iconst X (1) dX6_isPlace_10 (by decide) rfl ?_
    refine aw_goto (n := 15) X dX6_isPlace_11 rfl ?_
    exact aw_iret X hret rfl dX6_isPlace_15 (⟨by first | (simp_all [bI, bI_0, bI_ne, Int32.not_lt, Int32.not_le]; done) | grind [bI, bI_0, bI_ne], rfl⟩)

set_option maxHeartbeats 4000000 in
set_option maxRecDepth 100000 in
theorem k_X6_isLength {l : Launch} {s0 : State} {a0 : Array Value} {G : GG} (X : CX l s0 a0 G) {h : AH} {tg : Nat} (v : Int32) : Con l s0 G yX6_isLength cX6_isLength 1 (some .boolean) 1 0 0 tg [.int v] h (RS (.int (bI (5 ≤ v ∧ v ≤ 90))) h) := by
  refine Con.of X (by decide +kernel) [some (.int v)] rfl (Nat.le_of_ble_eq_true rfl) (fun p e s m below meth c X hnm hret => ?_)
  refine aw_ild0 X dX6_isLength_0 rfl ?_
  refine aw_iconst X (5) dX6_isLength_1 (by decide) rfl ?_
  refine aw_bipush X (90) dX6_isLength_2 (by decide) rfl ?_
  refine aw_callS X dX6_isLength_4 rfl (k_X6_outside X.1 v 5 90) cmX6_outside ml_X6_52 rfl rfl (Nat.le_of_ble_eq_true rfl) ⟨Nat.le_of_ble_eq_true rfl, Nat.le_of_ble_eq_true rfl⟩ (aw_rs ?_)
  refine aw_if_ne (n2 := 14) X dX6_isLength_7 rfl rfl (fun c7 => ?_) (fun c7 => ?_)
  · refine aw_iconst X (0) dX6_isLength_14 (by decide) rfl ?_
    exact aw_iret X hret rfl dX6_isLength_15 (⟨by first | (simp_all [bI, bI_0, bI_ne, Int32.not_lt, Int32.not_le]; done) | grind [bI, bI_0, bI_ne], rfl⟩)
  · refine aw_iconst X (1) dX6_isLength_10 (by decide) rfl ?_
    refine aw_goto (n := 15) X dX6_isLength_11 rfl ?_
    exact aw_iret X hret rfl dX6_isLength_15 (⟨by first | (simp_all [bI, bI_0, bI_ne, Int32.not_lt, Int32.not_le]; done) | grind [bI, bI_0, bI_ne], rfl⟩)

set_option maxHeartbeats 4000000 in
set_option maxRecDepth 100000 in
theorem k_X6_isNoneOrOf {l : Launch} {s0 : State} {a0 : Array Value} {G : GG} (X : CX l s0 a0 G) {h : AH} {tg : Nat} (ca x : Int32) : Con l s0 G yX6_isNoneOrOf cX6_isNoneOrOf 2 (some .boolean) 1 0 0 tg [.int ca, .int x] h (RS (.int (bI (x = -1 ∨ holdsP ca x))) h) := by
  refine Con.of X (by decide +kernel) [some (.int ca), some (.int x)] rfl (Nat.le_of_ble_eq_true rfl) (fun p e s m below meth c X hnm hret => ?_)
  refine aw_ild1 X dX6_isNoneOrOf_0 rfl ?_
  refine aw_iconst X (-1) dX6_isNoneOrOf_1 (by decide) rfl ?_
  refine aw_icmp_eq (n2 := 13) X dX6_isNoneOrOf_2 rfl rfl (fun c2 => ?_) (fun c2 => ?_)
  · refine aw_iconst X (1) dX6_isNoneOrOf_13 (by decide) rfl ?_
    refine aw_goto (n := 18) X dX6_isNoneOrOf_14 rfl ?_
    exact aw_iret X hret rfl dX6_isNoneOrOf_18 (⟨by first | (simp_all [bI, bI_0, bI_ne, Int32.not_lt, Int32.not_le]; done) | grind [bI, bI_0, bI_ne], rfl⟩)
  · refine aw_ild0 X dX6_isNoneOrOf_5 rfl ?_
    refine aw_ild1 X dX6_isNoneOrOf_6 rfl ?_
    refine aw_callS X dX6_isNoneOrOf_7 rfl (k_X6_holds X.1 ca x) cmX6_holds ml_X6_260 rfl rfl (Nat.le_of_ble_eq_true rfl) ⟨Nat.le_of_ble_eq_true rfl, Nat.le_of_ble_eq_true rfl⟩ (aw_rs ?_)
    refine aw_if_eq (n2 := 17) X dX6_isNoneOrOf_10 rfl rfl (fun c10 => ?_) (fun c10 => ?_)
    · refine aw_iconst X (0) dX6_isNoneOrOf_17 (by decide) rfl ?_
      exact aw_iret X hret rfl dX6_isNoneOrOf_18 (⟨by first | (simp_all [bI, bI_0, bI_ne, Int32.not_lt, Int32.not_le]; done) | grind [bI, bI_0, bI_ne], rfl⟩)
    · refine aw_iconst X (1) dX6_isNoneOrOf_13 (by decide) rfl ?_
      refine aw_goto (n := 18) X dX6_isNoneOrOf_14 rfl ?_
      exact aw_iret X hret rfl dX6_isNoneOrOf_18 (⟨by first | (simp_all [bI, bI_0, bI_ne, Int32.not_lt, Int32.not_le]; done) | grind [bI, bI_0, bI_ne], rfl⟩)

set_option maxHeartbeats 4000000 in
set_option maxRecDepth 100000 in
theorem k_X6_mix {l : Launch} {s0 : State} {a0 : Array Value} {G : GG} (X : CX l s0 a0 G) {h : AH} {tg : Nat} (d v : Int64) : Con l s0 G yX6_mix cX6_mix 4 (some .long) 0 0 0 tg [.long d, .long v] h (RS (.long (d * 31 + v)) h) := by
  refine Con.of X (by decide +kernel) [some (.long d), none, some (.long v), none] rfl (Nat.le_of_ble_eq_true rfl) (fun p e s m below meth c X hnm hret => ?_)
  refine aw_lld0 X dX6_mix_0 rfl ?_
  refine aw_ldc2 X (31) dX6_mix_1 rfl co_X6_346 ?_
  refine aw_lmul X dX6_mix_4 rfl ?_
  refine aw_lld2 X dX6_mix_5 rfl ?_
  refine aw_ladd X dX6_mix_6 rfl ?_
  exact aw_lret X hret dX6_mix_7 (⟨rfl, rfl⟩)

set_option maxHeartbeats 4000000 in
set_option maxRecDepth 100000 in
theorem k_inHand {l : Launch} {s0 : State} {a0 : Array Value} {G : GG} (X : CX l s0 a0 G) {h : AH} {a t tg : Nat} {sd : Int32} {r : Nat → Int32} (hf : h a = some (t, cFig sd r))  : Con l s0 G yX0_inHand cX0_inHand 1 (some .boolean) 0 0 0 tg [.ref a] h (RS (.int (bI (r 3 = 2 ∨ r 3 = 3))) h) := by
  refine Con.of X (by decide +kernel) [some (.ref a)] rfl (Nat.le_of_ble_eq_true rfl) (fun p e s m below meth c X hnm hret => ?_)
  refine aw_ald0 X dX0_inHand_0 rfl ?_
  refine aw_get X fd_X0_15 dX0_inHand_1 rfl hf rfl ?_
  refine aw_iconst X (2) dX0_inHand_4 (by decide) rfl ?_
  refine aw_icmp_eq (n2 := 16) X dX0_inHand_5 rfl rfl (fun c5 => ?_) (fun c5 => ?_)
  · refine aw_iconst X (1) dX0_inHand_16 (by decide) rfl ?_
    refine aw_goto (n := 21) X dX0_inHand_17 rfl ?_
    exact aw_iret X hret rfl dX0_inHand_21 (⟨by first | (simp_all [bI, bI_0, bI_ne, Int32.not_lt, Int32.not_le]; done) | grind [bI, bI_0, bI_ne], rfl⟩)
  · refine aw_ald0 X dX0_inHand_8 rfl ?_
    refine aw_get X fd_X0_15 dX0_inHand_9 rfl hf rfl ?_
    refine aw_iconst X (3) dX0_inHand_12 (by decide) rfl ?_
    refine aw_icmp_ne (n2 := 20) X dX0_inHand_13 rfl rfl (fun c13 => ?_) (fun c13 => ?_)
    · refine aw_iconst X (0) dX0_inHand_20 (by decide) rfl ?_
      exact aw_iret X hret rfl dX0_inHand_21 (⟨by first | (simp_all [bI, bI_0, bI_ne, Int32.not_lt, Int32.not_le]; done) | grind [bI, bI_0, bI_ne], rfl⟩)
    · refine aw_iconst X (1) dX0_inHand_16 (by decide) rfl ?_
      refine aw_goto (n := 21) X dX0_inHand_17 rfl ?_
      exact aw_iret X hret rfl dX0_inHand_21 (⟨by first | (simp_all [bI, bI_0, bI_ne, Int32.not_lt, Int32.not_le]; done) | grind [bI, bI_0, bI_ne], rfl⟩)

set_option maxHeartbeats 4000000 in
set_option maxRecDepth 100000 in
theorem k_shown {l : Launch} {s0 : State} {a0 : Array Value} {G : GG} (X : CX l s0 a0 G) {h : AH} {a t tg : Nat} {sd : Int32} {r : Nat → Int32} (hf : h a = some (t, cFig sd r))  : Con l s0 G yX0_shown cX0_shown 1 (some .boolean) 0 0 0 tg [.ref a] h (RS (.int (bI (r 3 ≠ 0))) h) := by
  refine Con.of X (by decide +kernel) [some (.ref a)] rfl (Nat.le_of_ble_eq_true rfl) (fun p e s m below meth c X hnm hret => ?_)
  refine aw_ald0 X dX0_shown_0 rfl ?_
  refine aw_get X fd_X0_15 dX0_shown_1 rfl hf rfl ?_
  refine aw_if_eq (n2 := 11) X dX0_shown_4 rfl rfl (fun c4 => ?_) (fun c4 => ?_)
  · refine aw_iconst X (0) dX0_shown_11 (by decide) rfl ?_
    exact aw_iret X hret rfl dX0_shown_12 (⟨by first | (simp_all [bI, bI_0, bI_ne, Int32.not_lt, Int32.not_le]; done) | grind [bI, bI_0, bI_ne], rfl⟩)
  · refine aw_iconst X (1) dX0_shown_7 (by decide) rfl ?_
    refine aw_goto (n := 12) X dX0_shown_8 rfl ?_
    exact aw_iret X hret rfl dX0_shown_12 (⟨by first | (simp_all [bI, bI_0, bI_ne, Int32.not_lt, Int32.not_le]; done) | grind [bI, bI_0, bI_ne], rfl⟩)

set_option maxHeartbeats 4000000 in
set_option maxRecDepth 100000 in
theorem k_wearBy {l : Launch} {s0 : State} {a0 : Array Value} {G : GG} (X : CX l s0 a0 G) {h : AH} {a tg : Nat} {sd : Int32} {r : Nat → Int32} (htg : tg ≠ 0) (x : Int32) (hf : h a = some (tg, cFig sd r)) : Con l s0 G yX0_wearBy cX0_wearBy 2 none 1 0 0 tg [.ref a, .int x] h (RV (hu h a (tg, cFig sd (wearR r x)))) := by
  refine Con.of X (by decide +kernel) [some (.ref a), some (.int x)] rfl (Nat.le_of_ble_eq_true rfl) (fun p e s m below meth c X hnm hret => ?_)
  refine aw_ald0 X dX0_wearBy_0 rfl ?_
  refine aw_bipush X (100) dX0_wearBy_1 (by decide) rfl ?_
  refine aw_ald0 X dX0_wearBy_3 rfl ?_
  refine aw_get X fd_X0_9 dX0_wearBy_4 rfl hf rfl ?_
  refine aw_ild1 X dX0_wearBy_7 rfl ?_
  refine aw_iadd X dX0_wearBy_8 rfl ?_
  refine aw_mmin X dX0_wearBy_9 rfl ⟨ml_X0_33, mm_min⟩ (Nat.le_of_ble_eq_true rfl) (Nat.le_of_ble_eq_true rfl) ?_
  refine aw_put X fd_X0_9 fw_X0_3 dX0_wearBy_12 rfl htg hf rfl rfl (Nat.le_of_ble_eq_true rfl) ?_
  exact aw_vret X hret dX0_wearBy_15 (⟨rfl, rfl⟩)

set_option maxHeartbeats 4000000 in
set_option maxRecDepth 100000 in
theorem k_X1_init {l : Launch} {s0 : State} {a0 : Array Value} {G : GG} (X : CX l s0 a0 G) {h : AH} {a tg : Nat} (htg : tg ≠ 0) (ho : h a = some (tg, .inr (3, [.int 0, .int 0, .int 0, .int 0, .int 0]))) : Con l s0 G yX1_init cX1_init 1 none 1 0 0 tg [.ref a] h (RV (hu h a (tg, .inr (3, [.int (-1), .int 0, .int 0, .int 0, .int 0])))) := by
  refine Con.of X (by decide +kernel) [some (.ref a)] rfl (Nat.le_of_ble_eq_true rfl) (fun p e s m below meth c X hnm hret => ?_)
  refine aw_ald0 X dX1_init_0 rfl ?_
  refine aw_objInit X dX1_init_1 rfl ⟨ml_X1_3, oi_ok⟩ (Nat.le_of_ble_eq_true rfl) (Nat.le_of_ble_eq_true rfl) ?_
  refine aw_ald0 X dX1_init_4 rfl ?_
  refine aw_iconst X (-1) dX1_init_5 (by decide) rfl ?_
  refine aw_put X fd_X1_9 fw_X1_0 dX1_init_6 rfl htg ho rfl rfl (Nat.le_of_ble_eq_true rfl) ?_
  refine aw_ald0 X dX1_init_9 rfl ?_
  refine aw_iconst X (0) dX1_init_10 (by decide) rfl ?_
  refine aw_put X fd_X1_15 fw_X1_1 dX1_init_11 rfl htg hu_s rfl rfl (Nat.le_of_ble_eq_true rfl) ?_
  refine aw_ald0 X dX1_init_14 rfl ?_
  refine aw_iconst X (0) dX1_init_15 (by decide) rfl ?_
  refine aw_put X fd_X1_18 fw_X1_2 dX1_init_16 rfl htg hu_s rfl rfl (Nat.le_of_ble_eq_true rfl) ?_
  refine aw_ald0 X dX1_init_19 rfl ?_
  refine aw_iconst X (0) dX1_init_20 (by decide) rfl ?_
  refine aw_put X fd_X1_21 fw_X1_3 dX1_init_21 rfl htg hu_s rfl rfl (Nat.le_of_ble_eq_true rfl) ?_
  refine aw_ald0 X dX1_init_24 rfl ?_
  refine aw_iconst X (0) dX1_init_25 (by decide) rfl ?_
  refine aw_put X fd_X1_24 fw_X1_4 dX1_init_26 rfl htg hu_s rfl rfl (Nat.le_of_ble_eq_true rfl) ?_
  exact aw_vret X hret dX1_init_29 (⟨rfl, by simp only [hu_hu]; rfl⟩)

set_option maxHeartbeats 4000000 in
set_option maxRecDepth 100000 in
theorem k_X1_beatsOfMinute {l : Launch} {s0 : State} {a0 : Array Value} {G : GG} (X : CX l s0 a0 G) {h : AH} {a t tg : Nat} {r : Nat → Int32} (ho : h a = some (t, oOrc r))  : Con l s0 G yX1_beatsOfMinute cX1_beatsOfMinute 1 (some .int) 0 0 0 tg [.ref a] h (RS (.int (8 * r 1)) h) := by
  refine Con.of X (by decide +kernel) [some (.ref a)] rfl (Nat.le_of_ble_eq_true rfl) (fun p e s m below meth c X hnm hret => ?_)
  refine aw_bipush X (8) dX1_beatsOfMinute_0 (by decide) rfl ?_
  refine aw_ald0 X dX1_beatsOfMinute_2 rfl ?_
  refine aw_get X fd_X1_15 dX1_beatsOfMinute_3 rfl ho rfl ?_
  refine aw_imul X dX1_beatsOfMinute_6 rfl ?_
  exact aw_iret X hret rfl dX1_beatsOfMinute_7 (⟨rfl, rfl⟩)

set_option maxHeartbeats 4000000 in
set_option maxRecDepth 100000 in
theorem k_X1_beatsOfCycle {l : Launch} {s0 : State} {a0 : Array Value} {G : GG} (X : CX l s0 a0 G) {h : AH} {a t tg : Nat} {r : Nat → Int32} (ho : h a = some (t, oOrc r))  : Con l s0 G yX1_beatsOfCycle cX1_beatsOfCycle 1 (some .int) 0 0 0 tg [.ref a] h (RS (.int (cyc (r 0))) h) := by
  refine Con.of X (by decide +kernel) [some (.ref a)] rfl (Nat.le_of_ble_eq_true rfl) (fun p e s m below meth c X hnm hret => ?_)
  refine aw_ald0 X dX1_beatsOfCycle_0 rfl ?_
  refine aw_get X fd_X1_9 dX1_beatsOfCycle_1 rfl ho rfl ?_
  by_cases s4_0 : r 0 = 0
  · refine aw_tswIn (n := 32) X 0 dX1_beatsOfCycle_4 (by rw [s4_0]; decide) (by decide) rfl rfl ?_
    refine aw_bipush X (8) dX1_beatsOfCycle_32 (by decide) rfl ?_
    exact aw_iret X hret rfl dX1_beatsOfCycle_34 (⟨by first | (simp_all [cyc, bI_0, bI_ne, Int32.not_lt, Int32.not_le]; done) | grind [bI, bI_0, bI_ne, cyc], rfl⟩)
  · skip
    by_cases s4_1 : r 0 = 1
    · refine aw_tswIn (n := 35) X 1 dX1_beatsOfCycle_4 (by rw [s4_1]; decide) (by decide) rfl rfl ?_
      refine aw_bipush X (16) dX1_beatsOfCycle_35 (by decide) rfl ?_
      exact aw_iret X hret rfl dX1_beatsOfCycle_37 (⟨by first | (simp_all [cyc, bI_0, bI_ne, Int32.not_lt, Int32.not_le]; done) | grind [bI, bI_0, bI_ne, cyc], rfl⟩)
    · skip
      by_cases s4_2 : r 0 = 2
      · refine aw_tswIn (n := 38) X 2 dX1_beatsOfCycle_4 (by rw [s4_2]; decide) (by decide) rfl rfl ?_
        refine aw_bipush X (12) dX1_beatsOfCycle_38 (by decide) rfl ?_
        exact aw_iret X hret rfl dX1_beatsOfCycle_40 (⟨by first | (simp_all [cyc, bI_0, bI_ne, Int32.not_lt, Int32.not_le]; done) | grind [bI, bI_0, bI_ne, cyc], rfl⟩)
      · skip
        refine aw_tswOut (n := 41) X dX1_beatsOfCycle_4 (tsw_out (fun q h1 h2 e => by
          have hq : q = 0 ∨ q = 1 ∨ q = 2 := by omega
          rcases hq with rfl | rfl | rfl
          · exact s4_0 e
          · exact s4_1 e
          · exact s4_2 e)) rfl ?_
        refine aw_bipush X (32) dX1_beatsOfCycle_41 (by decide) rfl ?_
        exact aw_iret X hret rfl dX1_beatsOfCycle_43 (⟨by first | (simp_all [cyc, bI_0, bI_ne, Int32.not_lt, Int32.not_le]; done) | grind [bI, bI_0, bI_ne, cyc], rfl⟩)

def ovl (r : Nat → Int32) (w : Int32) : Int32 := if w = 0 then r 0 else if w = 1 then r 1 else if w = 2 then r 2 else r 3

set_option maxHeartbeats 4000000 in
set_option maxRecDepth 100000 in
theorem k_X1_value {l : Launch} {s0 : State} {a0 : Array Value} {G : GG} (X : CX l s0 a0 G) {h : AH} {a t tg : Nat} {r : Nat → Int32} (ho : h a = some (t, oOrc r)) (w : Int32) : Con l s0 G yX1_value cX1_value 2 (some .int) 0 0 0 tg [.ref a, .int w] h (RS (.int (ovl r w)) h) := by
  refine Con.of X (by decide +kernel) [some (.ref a), some (.int w)] rfl (Nat.le_of_ble_eq_true rfl) (fun p e s m below meth c X hnm hret => ?_)
  refine aw_ild1 X dX1_value_0 rfl ?_
  by_cases s1_0 : w = 0
  · refine aw_tswIn (n := 28) X 0 dX1_value_1 (by rw [s1_0]; decide) (by decide) rfl rfl ?_
    refine aw_ald0 X dX1_value_28 rfl ?_
    refine aw_get X fd_X1_9 dX1_value_29 rfl ho rfl ?_
    exact aw_iret X hret rfl dX1_value_32 (⟨by first | (simp_all [ovl, bI_0, bI_ne, Int32.not_lt, Int32.not_le]; done) | grind [bI, bI_0, bI_ne, ovl], rfl⟩)
  · skip
    by_cases s1_1 : w = 1
    · refine aw_tswIn (n := 33) X 1 dX1_value_1 (by rw [s1_1]; decide) (by decide) rfl rfl ?_
      refine aw_ald0 X dX1_value_33 rfl ?_
      refine aw_get X fd_X1_15 dX1_value_34 rfl ho rfl ?_
      exact aw_iret X hret rfl dX1_value_37 (⟨by first | (simp_all [ovl, bI_0, bI_ne, Int32.not_lt, Int32.not_le]; done) | grind [bI, bI_0, bI_ne, ovl], rfl⟩)
    · skip
      by_cases s1_2 : w = 2
      · refine aw_tswIn (n := 38) X 2 dX1_value_1 (by rw [s1_2]; decide) (by decide) rfl rfl ?_
        refine aw_ald0 X dX1_value_38 rfl ?_
        refine aw_get X fd_X1_18 dX1_value_39 rfl ho rfl ?_
        exact aw_iret X hret rfl dX1_value_42 (⟨by first | (simp_all [ovl, bI_0, bI_ne, Int32.not_lt, Int32.not_le]; done) | grind [bI, bI_0, bI_ne, ovl], rfl⟩)
      · skip
        refine aw_tswOut (n := 43) X dX1_value_1 (tsw_out (fun q h1 h2 e => by
          have hq : q = 0 ∨ q = 1 ∨ q = 2 := by omega
          rcases hq with rfl | rfl | rfl
          · exact s1_0 e
          · exact s1_1 e
          · exact s1_2 e)) rfl ?_
        refine aw_ald0 X dX1_value_43 rfl ?_
        refine aw_get X fd_X1_21 dX1_value_44 rfl ho rfl ?_
        exact aw_iret X hret rfl dX1_value_47 (⟨by first | (simp_all [ovl, bI_0, bI_ne, Int32.not_lt, Int32.not_le]; done) | grind [bI, bI_0, bI_ne, ovl], rfl⟩)

def obeg (r : Nat → Int32) (m : Int32) : Nat → Int32 := upd (upd r 0 m) 1 1

set_option maxHeartbeats 4000000 in
set_option maxRecDepth 100000 in
theorem k_X1_begin {l : Launch} {s0 : State} {a0 : Array Value} {G : GG} (X : CX l s0 a0 G) {h : AH} {a tg : Nat} {r : Nat → Int32} (htg : tg ≠ 0) (ho : h a = some (tg, oOrc r)) (m9 : Int32) : Con l s0 G yX1_begin cX1_begin 2 (some .boolean) 0 0 0 tg [.ref a, .int m9] h (fun q h2 => (r 0 = -1 ∧ some (.int 1) = q ∧ hu h a (tg, oOrc (obeg r m9)) = h2) ∨ (¬ r 0 = -1 ∧ some (.int 0) = q ∧ h = h2)) := by
  refine Con.of X (by decide +kernel) [some (.ref a), some (.int m9)] rfl (Nat.le_of_ble_eq_true rfl) (fun p e s m below meth c X hnm hret => ?_)
  refine aw_ald0 X dX1_begin_0 rfl ?_
  refine aw_get X fd_X1_9 dX1_begin_1 rfl ho rfl ?_
  refine aw_iconst X (-1) dX1_begin_4 (by decide) rfl ?_
  refine aw_icmp_eq (n2 := 10) X dX1_begin_5 rfl rfl (fun c5 => ?_) (fun c5 => ?_)
  · refine aw_ald0 X dX1_begin_10 rfl ?_
    refine aw_ild1 X dX1_begin_11 rfl ?_
    refine aw_put X fd_X1_9 fw_X1_0 dX1_begin_12 rfl htg ho rfl rfl (Nat.le_of_ble_eq_true rfl) ?_
    refine aw_ald0 X dX1_begin_15 rfl ?_
    refine aw_iconst X (1) dX1_begin_16 (by decide) rfl ?_
    refine aw_put X fd_X1_15 fw_X1_1 dX1_begin_17 rfl htg hu_s rfl rfl (Nat.le_of_ble_eq_true rfl) ?_
    refine aw_iconst X (1) dX1_begin_20 (by decide) rfl ?_
    exact aw_iret X hret rfl dX1_begin_21 (Or.inl ⟨c5, rfl, by simp only [hu_hu]; rfl⟩)
  · refine aw_iconst X (0) dX1_begin_8 (by decide) rfl ?_
    exact aw_iret X hret rfl dX1_begin_9 (Or.inr ⟨c5, rfl, rfl⟩)

set_option maxHeartbeats 4000000 in
set_option maxRecDepth 100000 in
theorem k_X1_bid {l : Launch} {s0 : State} {a0 : Array Value} {G : GG} (X : CX l s0 a0 G) {h : AH} {a tg : Nat} {r : Nat → Int32} (htg : tg ≠ 0) (ho : h a = some (tg, oOrc r)) (w : Int32) : Con l s0 G yX1_bid cX1_bid 2 (some .boolean) 0 0 0 tg [.ref a, .int w] h (fun q h2 => (¬ r 0 = -1 ∧ some (.int 1) = q ∧ hu h a (tg, oOrc (upd r 3 w)) = h2) ∨ (r 0 = -1 ∧ some (.int 0) = q ∧ h = h2)) := by
  refine Con.of X (by decide +kernel) [some (.ref a), some (.int w)] rfl (Nat.le_of_ble_eq_true rfl) (fun p e s m below meth c X hnm hret => ?_)
  refine aw_ald0 X dX1_bid_0 rfl ?_
  refine aw_get X fd_X1_9 dX1_bid_1 rfl ho rfl ?_
  refine aw_iconst X (-1) dX1_bid_4 (by decide) rfl ?_
  refine aw_icmp_ne (n2 := 10) X dX1_bid_5 rfl rfl (fun c5 => ?_) (fun c5 => ?_)
  · refine aw_ald0 X dX1_bid_10 rfl ?_
    refine aw_ild1 X dX1_bid_11 rfl ?_
    refine aw_put X fd_X1_21 fw_X1_3 dX1_bid_12 rfl htg ho rfl rfl (Nat.le_of_ble_eq_true rfl) ?_
    refine aw_iconst X (1) dX1_bid_15 (by decide) rfl ?_
    exact aw_iret X hret rfl dX1_bid_16 (Or.inl ⟨c5, rfl, rfl⟩)
  · refine aw_iconst X (0) dX1_bid_8 (by decide) rfl ?_
    exact aw_iret X hret rfl dX1_bid_9 (Or.inr ⟨c5, rfl, rfl⟩)

def ongo (r : Nat → Int32) : Int32 := if 0 < 8 * r 1 then (cyc (r 0) - r 2 + 8 * r 1 - 1) / (8 * r 1) else -1

set_option maxHeartbeats 4000000 in
set_option maxRecDepth 100000 in
theorem k_X1_minutesToGong {l : Launch} {s0 : State} {a0 : Array Value} {G : GG} (X : CX l s0 a0 G) {h : AH} {a t tg : Nat} {r : Nat → Int32} (ho : h a = some (t, oOrc r))  : Con l s0 G yX1_minutesToGong cX1_minutesToGong 2 (some .int) 1 0 0 tg [.ref a] h (RS (.int (ongo r)) h) := by
  refine Con.of X (by decide +kernel) [some (.ref a), none] rfl (Nat.le_of_ble_eq_true rfl) (fun p e s m below meth c X hnm hret => ?_)
  refine aw_ald0 X dX1_minutesToGong_0 rfl ?_
  refine aw_callV X dX1_minutesToGong_1 rfl (k_X1_beatsOfMinute X.1 ho) cmX1_beatsOfMinute ml_X1_27 rfl ho rfl rfl (Nat.le_of_ble_eq_true rfl) ⟨Nat.le_of_ble_eq_true rfl, Nat.le_of_ble_eq_true rfl⟩ (aw_rs ?_)
  refine aw_ist1 X dX1_minutesToGong_4 rfl (by decide) rfl ?_
  refine aw_ild1 X dX1_minutesToGong_5 rfl ?_
  refine aw_if_gt (n2 := 11) X dX1_minutesToGong_6 rfl rfl (fun c6 => ?_) (fun c6 => ?_)
  · refine aw_ald0 X dX1_minutesToGong_11 rfl ?_
    refine aw_callV X dX1_minutesToGong_12 rfl (k_X1_beatsOfCycle X.1 ho) cmX1_beatsOfCycle ml_X1_31 rfl ho rfl rfl (Nat.le_of_ble_eq_true rfl) ⟨Nat.le_of_ble_eq_true rfl, Nat.le_of_ble_eq_true rfl⟩ (aw_rs ?_)
    refine aw_ald0 X dX1_minutesToGong_15 rfl ?_
    refine aw_get X fd_X1_18 dX1_minutesToGong_16 rfl ho rfl ?_
    refine aw_isub X dX1_minutesToGong_19 rfl ?_
    refine aw_ild1 X dX1_minutesToGong_20 rfl ?_
    refine aw_iadd X dX1_minutesToGong_21 rfl ?_
    refine aw_iconst X (1) dX1_minutesToGong_22 (by decide) rfl ?_
    refine aw_isub X dX1_minutesToGong_23 rfl ?_
    refine aw_ild1 X dX1_minutesToGong_24 rfl ?_
    refine aw_idiv X dX1_minutesToGong_25 ((fun e => by rw [e] at c6; exact absurd c6 (by decide))) rfl ?_
    exact aw_iret X hret rfl dX1_minutesToGong_26 (⟨by first | (simp_all [ongo, bI_0, bI_ne, Int32.not_lt, Int32.not_le]; done) | grind [bI, bI_0, bI_ne, ongo], rfl⟩)
  · refine aw_iconst X (-1) dX1_minutesToGong_9 (by decide) rfl ?_
    exact aw_iret X hret rfl dX1_minutesToGong_10 (⟨by first | (simp_all [ongo, bI_0, bI_ne, Int32.not_lt, Int32.not_le]; done) | grind [bI, bI_0, bI_ne, ongo], rfl⟩)

/-- a gong -/
def gongR (r : Nat → Int32) : Nat → Int32 :=
  let b := upd (upd r 4 (r 4 + 1)) 2 0
  let c := if r 3 = 1 then upd b 1 (if r 1 + 1 < 3 then r 1 + 1 else 3) else if r 3 = 2 then upd b 1 (if 1 < r 1 - 1 then r 1 - 1 else 1) else if r 3 = 3 then upd (upd b 0 (-1)) 1 0 else b
  upd c 3 0

set_option maxHeartbeats 4000000 in
set_option maxRecDepth 100000 in
theorem k_X1_soundGong {l : Launch} {s0 : State} {a0 : Array Value} {G : GG} (X : CX l s0 a0 G) {h : AH} {a tg : Nat} {r : Nat → Int32} (htg : tg ≠ 0) (ho : h a = some (tg, oOrc r))  : Con l s0 G yX1_soundGong cX1_soundGong 1 none 1 0 0 tg [.ref a] h (RV (hu h a (tg, oOrc (gongR r)))) := by
  refine Con.of X (by decide +kernel) [some (.ref a)] rfl (Nat.le_of_ble_eq_true rfl) (fun p e s m below meth c X hnm hret => ?_)
  refine aw_ald0 X dX1_soundGong_0 rfl ?_
  refine aw_dup X dX1_soundGong_1 rfl rfl ?_
  refine aw_get X fd_X1_24 dX1_soundGong_2 rfl ho rfl ?_
  refine aw_iconst X (1) dX1_soundGong_5 (by decide) rfl ?_
  refine aw_iadd X dX1_soundGong_6 rfl ?_
  refine aw_put X fd_X1_24 fw_X1_4 dX1_soundGong_7 rfl htg ho rfl rfl (Nat.le_of_ble_eq_true rfl) ?_
  refine aw_ald0 X dX1_soundGong_10 rfl ?_
  refine aw_iconst X (0) dX1_soundGong_11 (by decide) rfl ?_
  refine aw_put X fd_X1_18 fw_X1_2 dX1_soundGong_12 rfl htg hu_s rfl rfl (Nat.le_of_ble_eq_true rfl) ?_
  refine aw_ald0 X dX1_soundGong_15 rfl ?_
  refine aw_get X fd_X1_21 dX1_soundGong_16 rfl hu_s rfl ?_
  refine aw_iconst X (1) dX1_soundGong_19 (by decide) rfl ?_
  refine aw_icmp_ne (n2 := 40) X dX1_soundGong_20 rfl rfl (fun c20 => ?_) (fun c20 => ?_)
  · refine aw_ald0 X dX1_soundGong_40 rfl ?_
    refine aw_get X fd_X1_21 dX1_soundGong_41 rfl hu_s rfl ?_
    refine aw_iconst X (2) dX1_soundGong_44 (by decide) rfl ?_
    refine aw_icmp_ne (n2 := 65) X dX1_soundGong_45 rfl rfl (fun c45 => ?_) (fun c45 => ?_)
    · refine aw_ald0 X dX1_soundGong_65 rfl ?_
      refine aw_get X fd_X1_21 dX1_soundGong_66 rfl hu_s rfl ?_
      refine aw_iconst X (3) dX1_soundGong_69 (by decide) rfl ?_
      refine aw_icmp_ne (n2 := 83) X dX1_soundGong_70 rfl rfl (fun c70 => ?_) (fun c70 => ?_)
      · refine aw_ald0 X dX1_soundGong_83 rfl ?_
        refine aw_iconst X (0) dX1_soundGong_84 (by decide) rfl ?_
        refine aw_put X fd_X1_21 fw_X1_3 dX1_soundGong_85 rfl htg hu_s rfl rfl (Nat.le_of_ble_eq_true rfl) ?_
        exact aw_vret X hret dX1_soundGong_88 (⟨rfl, by simp_all [hu_hu, gongR, oOrc, upd, List.set]⟩)
      · refine aw_ald0 X dX1_soundGong_73 rfl ?_
        refine aw_iconst X (-1) dX1_soundGong_74 (by decide) rfl ?_
        refine aw_put X fd_X1_9 fw_X1_0 dX1_soundGong_75 rfl htg hu_s rfl rfl (Nat.le_of_ble_eq_true rfl) ?_
        refine aw_ald0 X dX1_soundGong_78 rfl ?_
        refine aw_iconst X (0) dX1_soundGong_79 (by decide) rfl ?_
        refine aw_put X fd_X1_15 fw_X1_1 dX1_soundGong_80 rfl htg hu_s rfl rfl (Nat.le_of_ble_eq_true rfl) ?_
        refine aw_ald0 X dX1_soundGong_83 rfl ?_
        refine aw_iconst X (0) dX1_soundGong_84 (by decide) rfl ?_
        refine aw_put X fd_X1_21 fw_X1_3 dX1_soundGong_85 rfl htg hu_s rfl rfl (Nat.le_of_ble_eq_true rfl) ?_
        exact aw_vret X hret dX1_soundGong_88 (⟨rfl, by simp_all [hu_hu, gongR, oOrc, upd, List.set]⟩)
    · refine aw_ald0 X dX1_soundGong_48 rfl ?_
      refine aw_iconst X (1) dX1_soundGong_49 (by decide) rfl ?_
      refine aw_ald0 X dX1_soundGong_50 rfl ?_
      refine aw_get X fd_X1_15 dX1_soundGong_51 rfl hu_s rfl ?_
      refine aw_iconst X (1) dX1_soundGong_54 (by decide) rfl ?_
      refine aw_isub X dX1_soundGong_55 rfl ?_
      refine aw_mmax X dX1_soundGong_56 rfl ⟨ml_X1_43, mm_max⟩ (Nat.le_of_ble_eq_true rfl) (Nat.le_of_ble_eq_true rfl) ?_
      refine aw_put X fd_X1_15 fw_X1_1 dX1_soundGong_59 rfl htg hu_s rfl rfl (Nat.le_of_ble_eq_true rfl) ?_
      refine aw_goto (n := 83) X dX1_soundGong_62 rfl ?_
      refine aw_ald0 X dX1_soundGong_83 rfl ?_
      refine aw_iconst X (0) dX1_soundGong_84 (by decide) rfl ?_
      refine aw_put X fd_X1_21 fw_X1_3 dX1_soundGong_85 rfl htg hu_s rfl rfl (Nat.le_of_ble_eq_true rfl) ?_
      exact aw_vret X hret dX1_soundGong_88 (⟨rfl, by simp_all [hu_hu, gongR, oOrc, upd, List.set]⟩)
  · refine aw_ald0 X dX1_soundGong_23 rfl ?_
    refine aw_iconst X (3) dX1_soundGong_24 (by decide) rfl ?_
    refine aw_ald0 X dX1_soundGong_25 rfl ?_
    refine aw_get X fd_X1_15 dX1_soundGong_26 rfl hu_s rfl ?_
    refine aw_iconst X (1) dX1_soundGong_29 (by decide) rfl ?_
    refine aw_iadd X dX1_soundGong_30 rfl ?_
    refine aw_mmin X dX1_soundGong_31 rfl ⟨ml_X1_37, mm_min⟩ (Nat.le_of_ble_eq_true rfl) (Nat.le_of_ble_eq_true rfl) ?_
    refine aw_put X fd_X1_15 fw_X1_1 dX1_soundGong_34 rfl htg hu_s rfl rfl (Nat.le_of_ble_eq_true rfl) ?_
    refine aw_goto (n := 83) X dX1_soundGong_37 rfl ?_
    refine aw_ald0 X dX1_soundGong_83 rfl ?_
    refine aw_iconst X (0) dX1_soundGong_84 (by decide) rfl ?_
    refine aw_put X fd_X1_21 fw_X1_3 dX1_soundGong_85 rfl htg hu_s rfl rfl (Nat.le_of_ble_eq_true rfl) ?_
    exact aw_vret X hret dX1_soundGong_88 (⟨rfl, by simp_all [hu_hu, gongR, oOrc, upd, List.set]⟩)

/-- one beat of a piece -/
def beatR (r : Nat → Int32) : Nat → Int32 := if r 2 + 1 = cyc (r 0) then gongR (upd r 2 (r 2 + 1)) else upd r 2 (r 2 + 1)
/-- j beats, none once it is silent -/
def beatsR : Nat → (Nat → Int32) → (Nat → Int32)
  | 0, r => r
  | j + 1, r => if r 0 = -1 then r else beatsR j (beatR r)
theorem beatsR_silent (r : Nat → Int32) (e : r 0 = -1) : ∀ j, beatsR j r = r := by
  intro j
  cases j with
  | zero => rfl
  | succ j => exact if_pos e
def playR (r : Nat → Int32) : Nat → Int32 := beatsR (8 * r 1).toNatClampNeg r

theorem oOrc_eq {r q : Nat → Int32} (h : ∀ i, i < 5 → r i = q i) : oOrc r = oOrc q := by
  unfold oOrc
  rw [h 0 (by decide), h 1 (by decide), h 2 (by decide), h 3 (by decide), h 4 (by decide)]

set_option maxHeartbeats 4000000 in
set_option maxRecDepth 100000 in
theorem k_X1_playMinute {l : Launch} {s0 : State} {a0 : Array Value} {G : GG} (X : CX l s0 a0 G) {h : AH} {a tg : Nat} {r : Nat → Int32} (htg : tg ≠ 0) (ho : h a = some (tg, oOrc r)) {nb : Nat} (hnb : 8 * r 1 = nI nb) (hb : nb < 1000) : Con l s0 G yX1_playMinute cX1_playMinute 3 none 2 0 0 tg [.ref a] h (RV (hu h a (tg, oOrc (beatsR nb r)))) := by
  refine Con.of X (by decide +kernel) [some (.ref a), none, none] rfl (Nat.le_of_ble_eq_true rfl) (fun p e s m below meth c X hnm hret => ?_)
  refine aw_ald0 X dX1_playMinute_0 rfl ?_
  refine aw_callV X dX1_playMinute_1 rfl (k_X1_beatsOfMinute X.1 ho) cmX1_beatsOfMinute ml_X1_27 rfl ho rfl rfl (Nat.le_of_ble_eq_true rfl) ⟨Nat.le_of_ble_eq_true rfl, Nat.le_of_ble_eq_true rfl⟩ (aw_rs ?_)
  rw [hnb]
  refine aw_ist1 X dX1_playMinute_4 rfl (by decide) rfl ?_
  refine aw_iconst X (0) dX1_playMinute_5 (by decide) rfl ?_
  refine aw_ist2 X dX1_playMinute_6 rfl (by decide) rfl ?_
  refine aw_dn (n := nb) (A := fun j k => ∀ (x : Int32), ∀ (q : Nat → Int32), ∀ (h9 : AH), (x = nI k) → (beatsR nb r = beatsR j q) → (h9 = hu h a (tg, oOrc q)) → AW p l e _ s m _ below meth c _ s0 G 3 tg _ h9 _ _ 7 [some (.ref a), some (.int (nI nb)), some (.int x)] []) ?_ ?_ nb 0 rfl 0 r h nI_0.symm rfl (hu_id ho).symm
  · intro x q h9 hx hq hh9
    refine aw_ild2 X dX1_playMinute_7 rfl ?_
    refine aw_ild1 X dX1_playMinute_8 rfl ?_
    refine aw_icmp_ge (n2 := 51) X dX1_playMinute_9 rfl rfl (fun c9 => ?_) (fun c9 => absurd (ge_t hx (Nat.le_refl _) (by omega)) c9)
    exact aw_vret X hret dX1_playMinute_51 (⟨rfl, by rw [hh9, hq]; rfl⟩)
  · intro j k hjk ih x q h9 hx hq hh9
    refine aw_ild2 X dX1_playMinute_7 rfl ?_
    refine aw_ild1 X dX1_playMinute_8 rfl ?_
    refine aw_icmp_ge (n2 := 51) X dX1_playMinute_9 rfl rfl (fun c9 => absurd c9 (ge_f hx (by omega) (by omega))) (fun c9 => ?_)
    refine aw_ald0 X dX1_playMinute_12 rfl ?_
    refine aw_get X fd_X1_9 dX1_playMinute_13 rfl (by rw [hh9]; exact hu_s) rfl ?_
    refine aw_iconst X (-1) dX1_playMinute_16 (by decide) rfl ?_
    refine aw_icmp_eq (n2 := 51) X dX1_playMinute_17 rfl rfl (fun c17 => ?_) (fun c17 => ?_)
    · exact aw_vret X hret dX1_playMinute_51 (⟨rfl, by rw [hh9, hq, beatsR_silent q c17]⟩)
    · refine aw_ald0 X dX1_playMinute_20 rfl ?_
      refine aw_dup X dX1_playMinute_21 rfl rfl ?_
      refine aw_get X fd_X1_18 dX1_playMinute_22 rfl (by rw [hh9]; exact hu_s) rfl ?_
      refine aw_iconst X (1) dX1_playMinute_25 (by decide) rfl ?_
      refine aw_iadd X dX1_playMinute_26 rfl ?_
      refine aw_put X fd_X1_18 fw_X1_2 dX1_playMinute_27 rfl htg (by rw [hh9]; exact hu_s) rfl rfl (Nat.le_of_ble_eq_true rfl) ?_
      refine aw_ald0 X dX1_playMinute_30 rfl ?_
      refine aw_get X fd_X1_18 dX1_playMinute_31 rfl hu_s rfl ?_
      refine aw_ald0 X dX1_playMinute_34 rfl ?_
      refine aw_callV X dX1_playMinute_35 rfl (k_X1_beatsOfCycle X.1 (r := upd q 2 (q 2 + 1)) hu_s) cmX1_beatsOfCycle ml_X1_31 rfl hu_s rfl rfl (Nat.le_of_ble_eq_true rfl) ⟨Nat.le_of_ble_eq_true rfl, Nat.le_of_ble_eq_true rfl⟩ (aw_rs ?_)
      refine aw_icmp_ne (n2 := 45) X dX1_playMinute_38 rfl rfl (fun c38 => ?_) (fun c38 => ?_)
      · refine aw_iinc2 X (1) dX1_playMinute_45 (by decide) rfl (by decide) rfl ?_
        refine aw_goto (n := 7) X dX1_playMinute_48 rfl ?_
        exact ih (x + 1) (upd q 2 (q 2 + 1)) _ (nx hx) (by rw [hq]; show (if q 0 = -1 then q else beatsR j (beatR q)) = _; rw [if_neg c17]; unfold beatR; rw [if_neg (show ¬ q 2 + 1 = cyc (q 0) from c38)]) (by rw [hh9, hu_hu]; first | done | rfl)
      · refine aw_ald0 X dX1_playMinute_41 rfl ?_
        refine aw_callV X dX1_playMinute_42 rfl (k_X1_soundGong X.1 (r := upd q 2 (q 2 + 1)) htg hu_s) cmX1_soundGong ml_X1_34 rfl hu_s rfl rfl (Nat.le_of_ble_eq_true rfl) ⟨Nat.le_of_ble_eq_true rfl, Nat.le_of_ble_eq_true rfl⟩ (aw_rv ?_)
        refine aw_iinc2 X (1) dX1_playMinute_45 (by decide) rfl (by decide) rfl ?_
        refine aw_goto (n := 7) X dX1_playMinute_48 rfl ?_
        exact ih (x + 1) (gongR (upd q 2 (q 2 + 1))) _ (nx hx) (by rw [hq]; show (if q 0 = -1 then q else beatsR j (beatR q)) = _; rw [if_neg c17]; unfold beatR; rw [if_pos (show q 2 + 1 = cyc (q 0) from c38)]) (by rw [hh9, hu_hu, hu_hu]; first | done | rfl)

/-- the screen sc: its list L of n figures, at fa k the row F k (of the side sd k), the lamp's distance and sway -/
def ScW (G : GG) (h : AH) (tg sc L ed cap : Nat) (md : Int32) (n : Nat) (g : Nat → Option Nat) (fa : Nat → Nat) (F : Nat → Nat → Int32) (sd : Nat → Int32) (di sw : Int32) : Prop :=
  h sc = some (tg, .inr (7, [.ref L, .int di, .int sw])) ∧ LI G h tg L n g ed cap md ∧ (∀ k, k < n → g k = some (fa k) ∧ h (fa k) = some (tg, cFig (sd k) (F k))) ∧ n ≤ 12 ∧ ∀ j k, j < n → k < n → fa j = fa k → j = k
def freeB (F : Nat → Nat → Int32) (n : Nat) (hd : Int32) : Bool := decide (∀ k, k < n → F k 3 ≠ hd)
abbrev freeP (F : Nat → Nat → Int32) (n : Nat) (hd : Int32) : Prop := freeB F n hd = true
theorem freeP_iff {F : Nat → Nat → Int32} {n : Nat} {hd : Int32} : freeP F n hd ↔ ∀ k, k < n → F k 3 ≠ hd := decide_eq_true_iff
theorem cl_X0 : vwCl[2]? = some (RX0, TX0, 7) := rfl

set_option maxHeartbeats 4000000 in
set_option maxRecDepth 100000 in
theorem k_X5_isFree {l : Launch} {s0 : State} {a0 : Array Value} {G : GG} (X : CX l s0 a0 G) {h : AH} {tw tg sc L ed cap n : Nat} {md di sw : Int32} {g : Nat → Option Nat} {fa : Nat → Nat} {F : Nat → Nat → Int32} {sd : Nat → Int32} (w : ScW G h tw sc L ed cap md n g fa F sd di sw) (hd : Int32) : Con l s0 G yX5_isFree cX5_isFree 3 (some .boolean) 3 0 0 tg [.ref sc, .int hd] h (RS (.int (bI (freeP F n hd))) h) := by
  refine Con.of X (by decide +kernel) [some (.ref sc), some (.int hd), none] rfl (Nat.le_of_ble_eq_true rfl) (fun p e s m below meth c X hnm hret => ?_)
  obtain ⟨hsc, hli, hF, hn12, hinj⟩ := w
  refine aw_iconst X (0) dX5_isFree_0 (by decide) rfl ?_
  refine aw_ist2 X dX5_isFree_1 rfl (by decide) rfl ?_
  refine aw_dn (n := n) (A := fun j k => ∀ (x : Int32), (x = nI k) → (∀ i, i < k → F i 3 ≠ hd) → AW p l e _ s m _ below meth c _ s0 G 3 tg _ h _ _ 2 [some (.ref sc), some (.int hd), some (.int x)] []) ?_ ?_ n 0 rfl 0 nI_0.symm (fun i hi => absurd hi (Nat.not_lt_zero _))
  · intro x hx hI
    refine aw_ild2 X dX5_isFree_2 rfl ?_
    refine aw_ald0 X dX5_isFree_3 rfl ?_
    refine aw_get X fd_X5_12 dX5_isFree_4 rfl hsc rfl ?_
    refine aw_callV X dX5_isFree_7 rfl (k_size X.1 hli) cmJx4a65c_size_8abf5 ml_X5_25 rfl hli.1 rfl rfl (Nat.le_of_ble_eq_true rfl) ⟨Nat.le_of_ble_eq_true rfl, Nat.le_of_ble_eq_true rfl⟩ (aw_rs ?_)
    refine aw_icmp_ge (n2 := 39) X dX5_isFree_10 rfl rfl (fun c10 => ?_) (fun c10 => absurd (ge_t hx (Nat.le_refl _) (by omega)) c10)
    refine aw_iconst X (1) dX5_isFree_39 (by decide) rfl ?_
    exact aw_iret X hret rfl dX5_isFree_40 (⟨by rw [bI_t (freeP_iff.mpr hI)], rfl⟩)
  · intro j k hjk ih x hx hI
    refine aw_ild2 X dX5_isFree_2 rfl ?_
    refine aw_ald0 X dX5_isFree_3 rfl ?_
    refine aw_get X fd_X5_12 dX5_isFree_4 rfl hsc rfl ?_
    refine aw_callV X dX5_isFree_7 rfl (k_size X.1 hli) cmJx4a65c_size_8abf5 ml_X5_25 rfl hli.1 rfl rfl (Nat.le_of_ble_eq_true rfl) ⟨Nat.le_of_ble_eq_true rfl, Nat.le_of_ble_eq_true rfl⟩ (aw_rs ?_)
    refine aw_icmp_ge (n2 := 39) X dX5_isFree_10 rfl rfl (fun c10 => absurd c10 (ge_f hx (by omega) (by omega))) (fun c10 => ?_)
    refine aw_ald0 X dX5_isFree_13 rfl ?_
    refine aw_get X fd_X5_12 dX5_isFree_14 rfl hsc rfl ?_
    refine aw_ild2 X dX5_isFree_17 rfl ?_
    refine aw_callV X dX5_isFree_18 rfl (k_lget X.1 hli hx (by omega) (hF k (by omega)).1) cmJx4a65c_get_915e3 ml_X5_29 rfl hli.1 rfl rfl (Nat.le_of_ble_eq_true rfl) ⟨Nat.le_of_ble_eq_true rfl, Nat.le_of_ble_eq_true rfl⟩ (aw_rs ?_)
    refine aw_cast X dX5_isFree_21 rfl rfl cc_X5_33 (hF k (by omega)).2 ?_
    refine aw_get X fd_X5_50 dX5_isFree_24 rfl (hF k (by omega)).2 rfl ?_
    refine aw_ild1 X dX5_isFree_27 rfl ?_
    refine aw_icmp_ne (n2 := 33) X dX5_isFree_28 rfl rfl (fun c28 => ?_) (fun c28 => ?_)
    · refine aw_iinc2 X (1) dX5_isFree_33 (by decide) rfl (by decide) rfl ?_
      refine aw_goto (n := 2) X dX5_isFree_36 rfl ?_
      exact ih (x + 1) (nx hx) (fun i hi => if q : i = k then (by rw [q]; exact c28) else hI i (by omega))
    · refine aw_iconst X (0) dX5_isFree_31 (by decide) rfl ?_
      exact aw_iret X hret rfl dX5_isFree_32 (⟨by rw [bI_f (fun q => freeP_iff.mp q k (by omega) c28)], rfl⟩)

set_option maxHeartbeats 4000000 in
set_option maxRecDepth 100000 in
theorem k_X5_figureAt {l : Launch} {s0 : State} {a0 : Array Value} {G : GG} (X : CX l s0 a0 G) {h : AH} {tw tg sc L ed cap n : Nat} {md di sw : Int32} {g : Nat → Option Nat} {fa : Nat → Nat} {F : Nat → Nat → Int32} {sd : Nat → Int32} (w : ScW G h tw sc L ed cap md n g fa F sd di sw) (pl : Int32) : Con l s0 G yX5_figureAt cX5_figureAt 4 (some .int) 3 0 0 tg [.ref sc, .int pl] h (RS (.int (ff (fun k => F k 3 ≠ 0 ∧ F k 4 = pl) n 0)) h) := by
  refine Con.of X (by decide +kernel) [some (.ref sc), some (.int pl), none, none] rfl (Nat.le_of_ble_eq_true rfl) (fun p e s m below meth c X hnm hret => ?_)
  obtain ⟨hsc, hli, hF, hn12, hinj⟩ := w
  refine aw_iconst X (0) dX5_figureAt_0 (by decide) rfl ?_
  refine aw_ist2 X dX5_figureAt_1 rfl (by decide) rfl ?_
  refine aw_dn (n := n) (A := fun j k => ∀ (y3 : Option Value), ∀ (x : Int32), (x = nI k) → (ff (fun k => F k 3 ≠ 0 ∧ F k 4 = pl) n 0 = ff (fun k => F k 3 ≠ 0 ∧ F k 4 = pl) j k) → AW p l e _ s m _ below meth c _ s0 G 4 tg _ h _ _ 2 [some (.ref sc), some (.int pl), some (.int x), y3] []) ?_ ?_ n 0 rfl none 0 nI_0.symm rfl
  · intro y3 x hx hI
    refine aw_ild2 X dX5_figureAt_2 rfl ?_
    refine aw_ald0 X dX5_figureAt_3 rfl ?_
    refine aw_get X fd_X5_12 dX5_figureAt_4 rfl hsc rfl ?_
    refine aw_callV X dX5_figureAt_7 rfl (k_size X.1 hli) cmJx4a65c_size_8abf5 ml_X5_25 rfl hli.1 rfl rfl (Nat.le_of_ble_eq_true rfl) ⟨Nat.le_of_ble_eq_true rfl, Nat.le_of_ble_eq_true rfl⟩ (aw_rs ?_)
    refine aw_icmp_ge (n2 := 48) X dX5_figureAt_10 rfl rfl (fun c10 => ?_) (fun c10 => absurd (ge_t hx (Nat.le_refl _) (by omega)) c10)
    refine aw_iconst X (-1) dX5_figureAt_48 (by decide) rfl ?_
    exact aw_iret X hret rfl dX5_figureAt_49 (⟨by rw [hI]; rfl, rfl⟩)
  · intro j k hjk ih y3 x hx hI
    refine aw_ild2 X dX5_figureAt_2 rfl ?_
    refine aw_ald0 X dX5_figureAt_3 rfl ?_
    refine aw_get X fd_X5_12 dX5_figureAt_4 rfl hsc rfl ?_
    refine aw_callV X dX5_figureAt_7 rfl (k_size X.1 hli) cmJx4a65c_size_8abf5 ml_X5_25 rfl hli.1 rfl rfl (Nat.le_of_ble_eq_true rfl) ⟨Nat.le_of_ble_eq_true rfl, Nat.le_of_ble_eq_true rfl⟩ (aw_rs ?_)
    refine aw_icmp_ge (n2 := 48) X dX5_figureAt_10 rfl rfl (fun c10 => absurd c10 (ge_f hx (by omega) (by omega))) (fun c10 => ?_)
    refine aw_ald0 X dX5_figureAt_13 rfl ?_
    refine aw_get X fd_X5_12 dX5_figureAt_14 rfl hsc rfl ?_
    refine aw_ild2 X dX5_figureAt_17 rfl ?_
    refine aw_callV X dX5_figureAt_18 rfl (k_lget X.1 hli hx (by omega) (hF k (by omega)).1) cmJx4a65c_get_915e3 ml_X5_29 rfl hli.1 rfl rfl (Nat.le_of_ble_eq_true rfl) ⟨Nat.le_of_ble_eq_true rfl, Nat.le_of_ble_eq_true rfl⟩ (aw_rs ?_)
    refine aw_cast X dX5_figureAt_21 rfl rfl cc_X5_33 (hF k (by omega)).2 ?_
    refine aw_ast3 X dX5_figureAt_24 rfl (by decide) rfl ?_
    refine aw_ald3 X dX5_figureAt_25 rfl ?_
    refine aw_callV X dX5_figureAt_26 rfl (k_shown X.1 (hF k (by omega)).2) cmX0_shown ml_X5_35 rfl (hF k (by omega)).2 rfl rfl (Nat.le_of_ble_eq_true rfl) ⟨Nat.le_of_ble_eq_true rfl, Nat.le_of_ble_eq_true rfl⟩ (aw_rs ?_)
    refine aw_if_eq (n2 := 42) X dX5_figureAt_29 rfl rfl (fun c29 => ?_) (fun c29 => ?_)
    · refine aw_iinc2 X (1) dX5_figureAt_42 (by decide) rfl (by decide) rfl ?_
      refine aw_goto (n := 2) X dX5_figureAt_45 rfl ?_
      exact ih _ (x + 1) (nx hx) (hI.trans (if_neg (fun q => by simp_all [bI_0])))
    · refine aw_ald3 X dX5_figureAt_32 rfl ?_
      refine aw_get X fd_X5_39 dX5_figureAt_33 rfl (hF k (by omega)).2 rfl ?_
      refine aw_ild1 X dX5_figureAt_36 rfl ?_
      refine aw_icmp_ne (n2 := 42) X dX5_figureAt_37 rfl rfl (fun c37 => ?_) (fun c37 => ?_)
      · refine aw_iinc2 X (1) dX5_figureAt_42 (by decide) rfl (by decide) rfl ?_
        refine aw_goto (n := 2) X dX5_figureAt_45 rfl ?_
        exact ih _ (x + 1) (nx hx) (hI.trans (if_neg (fun q => c37 q.2)))
      · refine aw_ild2 X dX5_figureAt_40 rfl ?_
        exact aw_iret X hret rfl dX5_figureAt_41 (⟨by rw [hI, hx]; exact congrArg _ (congrArg _ (if_pos ⟨by simpa [bI_0] using c29, c37⟩)), rfl⟩)

abbrev cntF (F : Nat → Nat → Int32) (n : Nat) : Int32 := fo (fun k c => if F k 3 ≠ 0 then c + 1 else c) 0 n
abbrev setF (F : Nat → Nat → Int32) (n : Nat) : Int32 := fo (fun k c => if F k 3 ≠ 0 then c ||| ((1 : Int32) <<< (F k 0 &&& 31)) else c) 0 n
abbrev sumF (F : Nat → Nat → Int32) (di : Int32) (n : Nat) : Int32 := fo (fun k c => if F k 3 ≠ 0 then c + shad (F k) di (F k 5) else c) 0 n

set_option maxHeartbeats 4000000 in
set_option maxRecDepth 100000 in
theorem k_X5_shownFigures {l : Launch} {s0 : State} {a0 : Array Value} {G : GG} (X : CX l s0 a0 G) {h : AH} {tw tg sc L ed cap n : Nat} {md di sw : Int32} {g : Nat → Option Nat} {fa : Nat → Nat} {F : Nat → Nat → Int32} {sd : Nat → Int32} (w : ScW G h tw sc L ed cap md n g fa F sd di sw)  : Con l s0 G yX5_shownFigures cX5_shownFigures 3 (some .int) 3 0 0 tg [.ref sc] h (RS (.int (cntF F n)) h) := by
  refine Con.of X (by decide +kernel) [some (.ref sc), none, none] rfl (Nat.le_of_ble_eq_true rfl) (fun p e s m below meth c X hnm hret => ?_)
  obtain ⟨hsc, hli, hF, hn12, hinj⟩ := w
  refine aw_iconst X (0) dX5_shownFigures_0 (by decide) rfl ?_
  refine aw_ist1 X dX5_shownFigures_1 rfl (by decide) rfl ?_
  refine aw_iconst X (0) dX5_shownFigures_2 (by decide) rfl ?_
  refine aw_ist2 X dX5_shownFigures_3 rfl (by decide) rfl ?_
  refine aw_dn (n := n) (A := fun j k => ∀ (x : Int32), ∀ (u : Int32), (x = nI k) → (u = cntF F k) → AW p l e _ s m _ below meth c _ s0 G 3 tg _ h _ _ 4 [some (.ref sc), some (.int u), some (.int x)] []) ?_ ?_ n 0 rfl 0 0 nI_0.symm rfl
  · intro x u hx hI
    refine aw_ild2 X dX5_shownFigures_4 rfl ?_
    refine aw_ald0 X dX5_shownFigures_5 rfl ?_
    refine aw_get X fd_X5_12 dX5_shownFigures_6 rfl hsc rfl ?_
    refine aw_callV X dX5_shownFigures_9 rfl (k_size X.1 hli) cmJx4a65c_size_8abf5 ml_X5_25 rfl hli.1 rfl rfl (Nat.le_of_ble_eq_true rfl) ⟨Nat.le_of_ble_eq_true rfl, Nat.le_of_ble_eq_true rfl⟩ (aw_rs ?_)
    refine aw_icmp_ge (n2 := 41) X dX5_shownFigures_12 rfl rfl (fun c12 => ?_) (fun c12 => absurd (ge_t hx (Nat.le_refl _) (by omega)) c12)
    refine aw_ild1 X dX5_shownFigures_41 rfl ?_
    exact aw_iret X hret rfl dX5_shownFigures_42 (⟨by rw [hI], rfl⟩)
  · intro j k hjk ih x u hx hI
    refine aw_ild2 X dX5_shownFigures_4 rfl ?_
    refine aw_ald0 X dX5_shownFigures_5 rfl ?_
    refine aw_get X fd_X5_12 dX5_shownFigures_6 rfl hsc rfl ?_
    refine aw_callV X dX5_shownFigures_9 rfl (k_size X.1 hli) cmJx4a65c_size_8abf5 ml_X5_25 rfl hli.1 rfl rfl (Nat.le_of_ble_eq_true rfl) ⟨Nat.le_of_ble_eq_true rfl, Nat.le_of_ble_eq_true rfl⟩ (aw_rs ?_)
    refine aw_icmp_ge (n2 := 41) X dX5_shownFigures_12 rfl rfl (fun c12 => absurd c12 (ge_f hx (by omega) (by omega))) (fun c12 => ?_)
    refine aw_ald0 X dX5_shownFigures_15 rfl ?_
    refine aw_get X fd_X5_12 dX5_shownFigures_16 rfl hsc rfl ?_
    refine aw_ild2 X dX5_shownFigures_19 rfl ?_
    refine aw_callV X dX5_shownFigures_20 rfl (k_lget X.1 hli hx (by omega) (hF k (by omega)).1) cmJx4a65c_get_915e3 ml_X5_29 rfl hli.1 rfl rfl (Nat.le_of_ble_eq_true rfl) ⟨Nat.le_of_ble_eq_true rfl, Nat.le_of_ble_eq_true rfl⟩ (aw_rs ?_)
    refine aw_cast X dX5_shownFigures_23 rfl rfl cc_X5_33 (hF k (by omega)).2 ?_
    refine aw_callV X dX5_shownFigures_26 rfl (k_shown X.1 (hF k (by omega)).2) cmX0_shown ml_X5_35 rfl (hF k (by omega)).2 rfl rfl (Nat.le_of_ble_eq_true rfl) ⟨Nat.le_of_ble_eq_true rfl, Nat.le_of_ble_eq_true rfl⟩ (aw_rs ?_)
    refine aw_if_eq (n2 := 35) X dX5_shownFigures_29 rfl rfl (fun c29 => ?_) (fun c29 => ?_)
    · refine aw_iinc2 X (1) dX5_shownFigures_35 (by decide) rfl (by decide) rfl ?_
      refine aw_goto (n := 4) X dX5_shownFigures_38 rfl ?_
      exact ih (x + 1) u (nx hx) (by rw [hI]; exact (if_neg (by simpa [bI_0] using c29)).symm)
    · refine aw_iinc1 X (1) dX5_shownFigures_32 (by decide) rfl (by decide) rfl ?_
      refine aw_iinc2 X (1) dX5_shownFigures_35 (by decide) rfl (by decide) rfl ?_
      refine aw_goto (n := 4) X dX5_shownFigures_38 rfl ?_
      exact ih (x + 1) _ (nx hx) (by rw [hI]; exact (if_pos (by simpa [bI_0] using c29)).symm)

set_option maxHeartbeats 4000000 in
set_option maxRecDepth 100000 in
theorem k_X5_shownPersons {l : Launch} {s0 : State} {a0 : Array Value} {G : GG} (X : CX l s0 a0 G) {h : AH} {tw tg sc L ed cap n : Nat} {md di sw : Int32} {g : Nat → Option Nat} {fa : Nat → Nat} {F : Nat → Nat → Int32} {sd : Nat → Int32} (w : ScW G h tw sc L ed cap md n g fa F sd di sw)  : Con l s0 G yX5_shownPersons cX5_shownPersons 4 (some .int) 3 0 0 tg [.ref sc] h (RS (.int (setF F n)) h) := by
  refine Con.of X (by decide +kernel) [some (.ref sc), none, none, none] rfl (Nat.le_of_ble_eq_true rfl) (fun p e s m below meth c X hnm hret => ?_)
  obtain ⟨hsc, hli, hF, hn12, hinj⟩ := w
  refine aw_iconst X (0) dX5_shownPersons_0 (by decide) rfl ?_
  refine aw_ist1 X dX5_shownPersons_1 rfl (by decide) rfl ?_
  refine aw_iconst X (0) dX5_shownPersons_2 (by decide) rfl ?_
  refine aw_ist2 X dX5_shownPersons_3 rfl (by decide) rfl ?_
  refine aw_dn (n := n) (A := fun j k => ∀ (y3 : Option Value), ∀ (x : Int32), ∀ (u : Int32), (x = nI k) → (u = setF F k) → AW p l e _ s m _ below meth c _ s0 G 4 tg _ h _ _ 4 [some (.ref sc), some (.int u), some (.int x), y3] []) ?_ ?_ n 0 rfl none 0 0 nI_0.symm rfl
  · intro y3 x u hx hI
    refine aw_ild2 X dX5_shownPersons_4 rfl ?_
    refine aw_ald0 X dX5_shownPersons_5 rfl ?_
    refine aw_get X fd_X5_12 dX5_shownPersons_6 rfl hsc rfl ?_
    refine aw_callV X dX5_shownPersons_9 rfl (k_size X.1 hli) cmJx4a65c_size_8abf5 ml_X5_25 rfl hli.1 rfl rfl (Nat.le_of_ble_eq_true rfl) ⟨Nat.le_of_ble_eq_true rfl, Nat.le_of_ble_eq_true rfl⟩ (aw_rs ?_)
    refine aw_icmp_ge (n2 := 49) X dX5_shownPersons_12 rfl rfl (fun c12 => ?_) (fun c12 => absurd (ge_t hx (Nat.le_refl _) (by omega)) c12)
    refine aw_ild1 X dX5_shownPersons_49 rfl ?_
    exact aw_iret X hret rfl dX5_shownPersons_50 (⟨by rw [hI], rfl⟩)
  · intro j k hjk ih y3 x u hx hI
    refine aw_ild2 X dX5_shownPersons_4 rfl ?_
    refine aw_ald0 X dX5_shownPersons_5 rfl ?_
    refine aw_get X fd_X5_12 dX5_shownPersons_6 rfl hsc rfl ?_
    refine aw_callV X dX5_shownPersons_9 rfl (k_size X.1 hli) cmJx4a65c_size_8abf5 ml_X5_25 rfl hli.1 rfl rfl (Nat.le_of_ble_eq_true rfl) ⟨Nat.le_of_ble_eq_true rfl, Nat.le_of_ble_eq_true rfl⟩ (aw_rs ?_)
    refine aw_icmp_ge (n2 := 49) X dX5_shownPersons_12 rfl rfl (fun c12 => absurd c12 (ge_f hx (by omega) (by omega))) (fun c12 => ?_)
    refine aw_ald0 X dX5_shownPersons_15 rfl ?_
    refine aw_get X fd_X5_12 dX5_shownPersons_16 rfl hsc rfl ?_
    refine aw_ild2 X dX5_shownPersons_19 rfl ?_
    refine aw_callV X dX5_shownPersons_20 rfl (k_lget X.1 hli hx (by omega) (hF k (by omega)).1) cmJx4a65c_get_915e3 ml_X5_29 rfl hli.1 rfl rfl (Nat.le_of_ble_eq_true rfl) ⟨Nat.le_of_ble_eq_true rfl, Nat.le_of_ble_eq_true rfl⟩ (aw_rs ?_)
    refine aw_cast X dX5_shownPersons_23 rfl rfl cc_X5_33 (hF k (by omega)).2 ?_
    refine aw_ast3 X dX5_shownPersons_26 rfl (by decide) rfl ?_
    refine aw_ald3 X dX5_shownPersons_27 rfl ?_
    refine aw_callV X dX5_shownPersons_28 rfl (k_shown X.1 (hF k (by omega)).2) cmX0_shown ml_X5_35 rfl (hF k (by omega)).2 rfl rfl (Nat.le_of_ble_eq_true rfl) ⟨Nat.le_of_ble_eq_true rfl, Nat.le_of_ble_eq_true rfl⟩ (aw_rs ?_)
    refine aw_if_eq (n2 := 43) X dX5_shownPersons_31 rfl rfl (fun c31 => ?_) (fun c31 => ?_)
    · refine aw_iinc2 X (1) dX5_shownPersons_43 (by decide) rfl (by decide) rfl ?_
      refine aw_goto (n := 4) X dX5_shownPersons_46 rfl ?_
      exact ih _ (x + 1) u (nx hx) (by rw [hI]; exact (if_neg (by simpa [bI_0] using c31)).symm)
    · refine aw_ild1 X dX5_shownPersons_34 rfl ?_
      refine aw_iconst X (1) dX5_shownPersons_35 (by decide) rfl ?_
      refine aw_ald3 X dX5_shownPersons_36 rfl ?_
      refine aw_get X fd_X5_77 dX5_shownPersons_37 rfl (hF k (by omega)).2 rfl ?_
      refine aw_ishl X dX5_shownPersons_40 rfl ?_
      refine aw_ior X dX5_shownPersons_41 rfl ?_
      refine aw_ist1 X dX5_shownPersons_42 rfl (by decide) rfl ?_
      refine aw_iinc2 X (1) dX5_shownPersons_43 (by decide) rfl (by decide) rfl ?_
      refine aw_goto (n := 4) X dX5_shownPersons_46 rfl ?_
      exact ih _ (x + 1) _ (nx hx) (by rw [hI]; exact (if_pos (by simpa [bI_0] using c31)).symm)

set_option maxHeartbeats 4000000 in
set_option maxRecDepth 100000 in
theorem k_X5_shadow {l : Launch} {s0 : State} {a0 : Array Value} {G : GG} (X : CX l s0 a0 G) {h : AH} {tw tg sc L ed cap n : Nat} {md di sw : Int32} {g : Nat → Option Nat} {fa : Nat → Nat} {F : Nat → Nat → Int32} {sd : Nat → Int32} (w : ScW G h tw sc L ed cap md n g fa F sd di sw) {a : Nat} {s9 : Int32} {r : Nat → Int32} (x : Int32) (hf : h a = some (tw, cFig s9 r)) : Con l s0 G yX5_shadow cX5_shadow 4 (some .int) 0 0 0 tg [.ref sc, .ref a, .int x] h (RS (.int (shad r di x)) h) := by
  refine Con.of X (by decide +kernel) [some (.ref sc), some (.ref a), some (.int x), none] rfl (Nat.le_of_ble_eq_true rfl) (fun p e s m below meth c X hnm hret => ?_)
  obtain ⟨hsc, hli, hF, hn12, hinj⟩ := w
  refine aw_ald0 X dX5_shadow_0 rfl ?_
  refine aw_get X fd_X5_18 dX5_shadow_1 rfl hsc rfl ?_
  refine aw_ild2 X dX5_shadow_4 rfl ?_
  refine aw_isub X dX5_shadow_5 rfl ?_
  refine aw_ist3 X dX5_shadow_6 rfl (by decide) rfl ?_
  refine aw_ild3 X dX5_shadow_7 rfl ?_
  refine aw_if_gt (n2 := 13) X dX5_shadow_8 rfl rfl (fun c8 => ?_) (fun c8 => ?_)
  · refine aw_ald1 X dX5_shadow_13 rfl ?_
    refine aw_get X fd_X5_70 dX5_shadow_14 rfl hf rfl ?_
    refine aw_ald0 X dX5_shadow_17 rfl ?_
    refine aw_get X fd_X5_18 dX5_shadow_18 rfl hsc rfl ?_
    refine aw_imul X dX5_shadow_21 rfl ?_
    refine aw_ild3 X dX5_shadow_22 rfl ?_
    refine aw_idiv X dX5_shadow_23 ((fun e => by rw [e] at c8; exact absurd c8 (by decide))) rfl ?_
    exact aw_iret X hret rfl dX5_shadow_24 (⟨by first | (simp_all [shad, bI_0, bI_ne, Int32.not_lt, Int32.not_le]; done) | grind [bI, bI_0, bI_ne, shad], rfl⟩)
  · refine aw_iconst X (0) dX5_shadow_11 (by decide) rfl ?_
    exact aw_iret X hret rfl dX5_shadow_12 (⟨by first | (simp_all [shad, bI_0, bI_ne, Int32.not_lt, Int32.not_le]; done) | grind [bI, bI_0, bI_ne, shad], rfl⟩)

set_option maxHeartbeats 4000000 in
set_option maxRecDepth 100000 in
theorem k_X5_shadowSum {l : Launch} {s0 : State} {a0 : Array Value} {G : GG} (X : CX l s0 a0 G) {h : AH} {tw tg sc L ed cap n : Nat} {md di sw : Int32} {g : Nat → Option Nat} {fa : Nat → Nat} {F : Nat → Nat → Int32} {sd : Nat → Int32} (w : ScW G h tw sc L ed cap md n g fa F sd di sw)  : Con l s0 G yX5_shadowSum cX5_shadowSum 4 (some .int) 3 0 0 tg [.ref sc] h (RS (.int (sumF F di n)) h) := by
  refine Con.of X (by decide +kernel) [some (.ref sc), none, none, none] rfl (Nat.le_of_ble_eq_true rfl) (fun p e s m below meth c X hnm hret => ?_)
  have w0 := w
  obtain ⟨hsc, hli, hF, hn12, hinj⟩ := w
  refine aw_iconst X (0) dX5_shadowSum_0 (by decide) rfl ?_
  refine aw_ist1 X dX5_shadowSum_1 rfl (by decide) rfl ?_
  refine aw_iconst X (0) dX5_shadowSum_2 (by decide) rfl ?_
  refine aw_ist2 X dX5_shadowSum_3 rfl (by decide) rfl ?_
  refine aw_dn (n := n) (A := fun j k => ∀ (y3 : Option Value), ∀ (x : Int32), ∀ (u : Int32), (x = nI k) → (u = sumF F di k) → AW p l e _ s m _ below meth c _ s0 G 4 tg _ h _ _ 4 [some (.ref sc), some (.int u), some (.int x), y3] []) ?_ ?_ n 0 rfl none 0 0 nI_0.symm rfl
  · intro y3 x u hx hI
    refine aw_ild2 X dX5_shadowSum_4 rfl ?_
    refine aw_ald0 X dX5_shadowSum_5 rfl ?_
    refine aw_get X fd_X5_12 dX5_shadowSum_6 rfl hsc rfl ?_
    refine aw_callV X dX5_shadowSum_9 rfl (k_size X.1 hli) cmJx4a65c_size_8abf5 ml_X5_25 rfl hli.1 rfl rfl (Nat.le_of_ble_eq_true rfl) ⟨Nat.le_of_ble_eq_true rfl, Nat.le_of_ble_eq_true rfl⟩ (aw_rs ?_)
    refine aw_icmp_ge (n2 := 52) X dX5_shadowSum_12 rfl rfl (fun c12 => ?_) (fun c12 => absurd (ge_t hx (Nat.le_refl _) (by omega)) c12)
    refine aw_ild1 X dX5_shadowSum_52 rfl ?_
    exact aw_iret X hret rfl dX5_shadowSum_53 (⟨by rw [hI], rfl⟩)
  · intro j k hjk ih y3 x u hx hI
    refine aw_ild2 X dX5_shadowSum_4 rfl ?_
    refine aw_ald0 X dX5_shadowSum_5 rfl ?_
    refine aw_get X fd_X5_12 dX5_shadowSum_6 rfl hsc rfl ?_
    refine aw_callV X dX5_shadowSum_9 rfl (k_size X.1 hli) cmJx4a65c_size_8abf5 ml_X5_25 rfl hli.1 rfl rfl (Nat.le_of_ble_eq_true rfl) ⟨Nat.le_of_ble_eq_true rfl, Nat.le_of_ble_eq_true rfl⟩ (aw_rs ?_)
    refine aw_icmp_ge (n2 := 52) X dX5_shadowSum_12 rfl rfl (fun c12 => absurd c12 (ge_f hx (by omega) (by omega))) (fun c12 => ?_)
    refine aw_ald0 X dX5_shadowSum_15 rfl ?_
    refine aw_get X fd_X5_12 dX5_shadowSum_16 rfl hsc rfl ?_
    refine aw_ild2 X dX5_shadowSum_19 rfl ?_
    refine aw_callV X dX5_shadowSum_20 rfl (k_lget X.1 hli hx (by omega) (hF k (by omega)).1) cmJx4a65c_get_915e3 ml_X5_29 rfl hli.1 rfl rfl (Nat.le_of_ble_eq_true rfl) ⟨Nat.le_of_ble_eq_true rfl, Nat.le_of_ble_eq_true rfl⟩ (aw_rs ?_)
    refine aw_cast X dX5_shadowSum_23 rfl rfl cc_X5_33 (hF k (by omega)).2 ?_
    refine aw_ast3 X dX5_shadowSum_26 rfl (by decide) rfl ?_
    refine aw_ald3 X dX5_shadowSum_27 rfl ?_
    refine aw_callV X dX5_shadowSum_28 rfl (k_shown X.1 (hF k (by omega)).2) cmX0_shown ml_X5_35 rfl (hF k (by omega)).2 rfl rfl (Nat.le_of_ble_eq_true rfl) ⟨Nat.le_of_ble_eq_true rfl, Nat.le_of_ble_eq_true rfl⟩ (aw_rs ?_)
    refine aw_if_eq (n2 := 46) X dX5_shadowSum_31 rfl rfl (fun c31 => ?_) (fun c31 => ?_)
    · refine aw_iinc2 X (1) dX5_shadowSum_46 (by decide) rfl (by decide) rfl ?_
      refine aw_goto (n := 4) X dX5_shadowSum_49 rfl ?_
      exact ih _ (x + 1) u (nx hx) (by rw [hI]; exact (if_neg (by simpa [bI_0] using c31)).symm)
    · refine aw_ild1 X dX5_shadowSum_34 rfl ?_
      refine aw_ald0 X dX5_shadowSum_35 rfl ?_
      refine aw_ald3 X dX5_shadowSum_36 rfl ?_
      refine aw_ald3 X dX5_shadowSum_37 rfl ?_
      refine aw_get X fd_X5_80 dX5_shadowSum_38 rfl (hF k (by omega)).2 rfl ?_
      refine aw_callV X dX5_shadowSum_41 rfl (k_X5_shadow X.1 w0 (F k 5) (hF k (by omega)).2) cmX5_shadow ml_X5_73 rfl hsc rfl rfl (Nat.le_of_ble_eq_true rfl) ⟨Nat.le_of_ble_eq_true rfl, Nat.le_of_ble_eq_true rfl⟩ (aw_rs ?_)
      refine aw_iadd X dX5_shadowSum_44 rfl ?_
      refine aw_ist1 X dX5_shadowSum_45 rfl (by decide) rfl ?_
      refine aw_iinc2 X (1) dX5_shadowSum_46 (by decide) rfl (by decide) rfl ?_
      refine aw_goto (n := 4) X dX5_shadowSum_49 rfl ?_
      exact ih _ (x + 1) _ (nx hx) (by rw [hI]; exact (if_pos (by simpa [bI_0] using c31)).symm)

def llf (r : Nat → Int32) (di sh : Int32) : Int32 := ff (fun k => sh ≤ shad r di (nI k)) 16 0

set_option maxHeartbeats 4000000 in
set_option maxRecDepth 100000 in
theorem k_X5_leastLift {l : Launch} {s0 : State} {a0 : Array Value} {G : GG} (X : CX l s0 a0 G) {h : AH} {tw tg sc L ed cap n : Nat} {md di sw : Int32} {g : Nat → Option Nat} {fa : Nat → Nat} {F : Nat → Nat → Int32} {sd : Nat → Int32} (w : ScW G h tw sc L ed cap md n g fa F sd di sw) {a : Nat} {s9 : Int32} {r : Nat → Int32} (sh : Int32) (hf : h a = some (tw, cFig s9 r)) : Con l s0 G yX5_leastLift cX5_leastLift 4 (some .int) 1 0 0 tg [.ref sc, .ref a, .int sh] h (RS (.int (llf r di sh)) h) := by
  refine Con.of X (by decide +kernel) [some (.ref sc), some (.ref a), some (.int sh), none] rfl (Nat.le_of_ble_eq_true rfl) (fun p e s m below meth c X hnm hret => ?_)
  have w0 := w
  obtain ⟨hsc, hli, hF, hn12, hinj⟩ := w
  refine aw_iconst X (0) dX5_leastLift_0 (by decide) rfl ?_
  refine aw_ist3 X dX5_leastLift_1 rfl (by decide) rfl ?_
  refine aw_dn (n := 16) (A := fun j k => ∀ (x : Int32), (x = nI k) → (llf r di sh = ff (fun k => sh ≤ shad r di (nI k)) j k) → AW p l e _ s m _ below meth c _ s0 G 4 tg _ h _ _ 2 [some (.ref sc), some (.ref a), some (.int sh), some (.int x)] []) ?_ ?_ 16 0 rfl 0 nI_0.symm rfl
  · intro x hx hI
    refine aw_ild3 X dX5_leastLift_2 rfl ?_
    refine aw_bipush X (15) dX5_leastLift_3 (by decide) rfl ?_
    refine aw_icmp_gt (n2 := 26) X dX5_leastLift_5 rfl rfl (fun c5 => ?_) (fun c5 => absurd (by rw [hx]; decide) c5)
    refine aw_iconst X (-1) dX5_leastLift_26 (by decide) rfl ?_
    exact aw_iret X hret rfl dX5_leastLift_27 (⟨by rw [hI]; rfl, rfl⟩)
  · intro j k hjk ih x hx hI
    refine aw_ild3 X dX5_leastLift_2 rfl ?_
    refine aw_bipush X (15) dX5_leastLift_3 (by decide) rfl ?_
    refine aw_icmp_gt (n2 := 26) X dX5_leastLift_5 rfl rfl (fun c5 => absurd c5 (by rw [hx]; exact Int32.not_lt.mpr (nI_le (b := 15) (by omega) (by decide)))) (fun c5 => ?_)
    refine aw_ald0 X dX5_leastLift_8 rfl ?_
    refine aw_ald1 X dX5_leastLift_9 rfl ?_
    refine aw_ild3 X dX5_leastLift_10 rfl ?_
    refine aw_callV X dX5_leastLift_11 rfl (k_X5_shadow X.1 w0 x hf) cmX5_shadow ml_X5_73 rfl hsc rfl rfl (Nat.le_of_ble_eq_true rfl) ⟨Nat.le_of_ble_eq_true rfl, Nat.le_of_ble_eq_true rfl⟩ (aw_rs ?_)
    refine aw_ild2 X dX5_leastLift_14 rfl ?_
    refine aw_icmp_lt (n2 := 20) X dX5_leastLift_15 rfl rfl (fun c15 => ?_) (fun c15 => ?_)
    · refine aw_iinc3 X (1) dX5_leastLift_20 (by decide) rfl (by decide) rfl ?_
      refine aw_goto (n := 2) X dX5_leastLift_23 rfl ?_
      exact ih (x + 1) (nx hx) (hI.trans (if_neg (by show ¬ sh ≤ shad r di (nI k); rw [← hx]; exact Int32.not_le.mpr c15)))
    · refine aw_ild3 X dX5_leastLift_18 rfl ?_
      exact aw_iret X hret rfl dX5_leastLift_19 (⟨by rw [hI, hx]; exact congrArg _ (congrArg _ (if_pos (by show sh ≤ shad r di (nI k); rw [← hx]; exact Int32.not_lt.mp c15))), rfl⟩)

def figAt (F : Nat → Nat → Int32) (n : Nat) (pl : Int32) : Int32 := ff (fun k => F k 3 ≠ 0 ∧ F k 4 = pl) n 0
/-- by which hand a figure of the side sd, with the row r, is gripped; -1: by none -/
def gripS (sd : Int32) (r : Nat → Int32) (F : Nat → Nat → Int32) (n : Nat) : Int32 :=
  if r 3 = 0 then (if freeP F n (if sd = 0 then 2 else 3) ∧ figAt F n (if sd = 0 then 0 else 9) = -1 then (if sd = 0 then 2 else 3) else -1)
  else if r 3 = 1 then (if reachP 2 (r 4) ∧ freeP F n 2 then 2 else if reachP 3 (r 4) ∧ freeP F n 3 then 3 else -1)
  else -1

set_option maxHeartbeats 4000000 in
set_option maxRecDepth 100000 in
theorem k_X5_canTake {l : Launch} {s0 : State} {a0 : Array Value} {G : GG} (X : CX l s0 a0 G) {h : AH} {tw tg sc L ed cap n : Nat} {md di sw : Int32} {g : Nat → Option Nat} {fa : Nat → Nat} {F : Nat → Nat → Int32} {sd : Nat → Int32} (w : ScW G h tw sc L ed cap md n g fa F sd di sw) (hd pl : Int32) : Con l s0 G yX5_canTake cX5_canTake 3 (some .boolean) 4 0 0 tg [.ref sc, .int hd, .int pl] h (RS (.int (bI (reachP hd pl ∧ freeP F n hd))) h) := by
  refine Con.of X (by decide +kernel) [some (.ref sc), some (.int hd), some (.int pl)] rfl (Nat.le_of_ble_eq_true rfl) (fun p e s m below meth c X hnm hret => ?_)
  have w0 := w
  obtain ⟨hsc, hli, hF, hn12, hinj⟩ := w
  refine aw_ild1 X dX5_canTake_0 rfl ?_
  refine aw_ild2 X dX5_canTake_1 rfl ?_
  refine aw_callSN X dX5_canTake_2 rfl (k_X6_reaches X.1 hd pl) cmX6_reaches mn_X5_42 rfl rfl (Nat.le_of_ble_eq_true rfl) ⟨Nat.le_of_ble_eq_true rfl, Nat.le_of_ble_eq_true rfl⟩ (aw_rs ?_)
  refine aw_if_eq (n2 := 20) X dX5_canTake_5 rfl rfl (fun c5 => ?_) (fun c5 => ?_)
  · refine aw_iconst X (0) dX5_canTake_20 (by decide) rfl ?_
    exact aw_iret X hret rfl dX5_canTake_21 (⟨by first | (simp_all [bI, bI_0, bI_ne, Int32.not_lt, Int32.not_le]; done) | grind [bI, bI_0, bI_ne], rfl⟩)
  · refine aw_ald0 X dX5_canTake_8 rfl ?_
    refine aw_ild1 X dX5_canTake_9 rfl ?_
    refine aw_callV X dX5_canTake_10 rfl (k_X5_isFree X.1 w0 hd) cmX5_isFree ml_X5_46 rfl hsc rfl rfl (Nat.le_of_ble_eq_true rfl) ⟨Nat.le_of_ble_eq_true rfl, Nat.le_of_ble_eq_true rfl⟩ (aw_rs ?_)
    refine aw_if_eq (n2 := 20) X dX5_canTake_13 rfl rfl (fun c13 => ?_) (fun c13 => ?_)
    · refine aw_iconst X (0) dX5_canTake_20 (by decide) rfl ?_
      exact aw_iret X hret rfl dX5_canTake_21 (⟨by first | (simp_all [bI, bI_0, bI_ne, Int32.not_lt, Int32.not_le]; done) | grind [bI, bI_0, bI_ne], rfl⟩)
    · refine aw_iconst X (1) dX5_canTake_16 (by decide) rfl ?_
      refine aw_goto (n := 21) X dX5_canTake_17 rfl ?_
      exact aw_iret X hret rfl dX5_canTake_21 (⟨by first | (simp_all [bI, bI_0, bI_ne, Int32.not_lt, Int32.not_le]; done) | grind [bI, bI_0, bI_ne], rfl⟩)

set_option maxHeartbeats 4000000 in
set_option maxRecDepth 100000 in
theorem k_X5_gripper {l : Launch} {s0 : State} {a0 : Array Value} {G : GG} (X : CX l s0 a0 G) {h : AH} {tw tg sc L ed cap n : Nat} {md di sw : Int32} {g : Nat → Option Nat} {fa : Nat → Nat} {F : Nat → Nat → Int32} {sd : Nat → Int32} (w : ScW G h tw sc L ed cap md n g fa F sd di sw) {a : Nat} {s9 : Int32} {r : Nat → Int32} (hf : h a = some (tw, cFig s9 r)) : Con l s0 G yX5_gripper cX5_gripper 3 (some .int) 5 0 0 tg [.ref sc, .ref a] h (RS (.int (gripS s9 r F n)) h) := by
  refine Con.of X (by decide +kernel) [some (.ref sc), some (.ref a), none] rfl (Nat.le_of_ble_eq_true rfl) (fun p e s m below meth c X hnm hret => ?_)
  have w0 := w
  obtain ⟨hsc, hli, hF, hn12, hinj⟩ := w
  refine aw_ald1 X dX5_gripper_0 rfl ?_
  refine aw_get X fd_X5_50 dX5_gripper_1 rfl hf rfl ?_
  refine aw_if_ne (n2 := 49) X dX5_gripper_4 rfl rfl (fun c4 => ?_) (fun c4 => ?_)
  · refine aw_ald1 X dX5_gripper_49 rfl ?_
    refine aw_get X fd_X5_50 dX5_gripper_50 rfl hf rfl ?_
    refine aw_iconst X (1) dX5_gripper_53 (by decide) rfl ?_
    refine aw_icmp_eq (n2 := 59) X dX5_gripper_54 rfl rfl (fun c54 => ?_) (fun c54 => ?_)
    · refine aw_ald0 X dX5_gripper_59 rfl ?_
      refine aw_iconst X (2) dX5_gripper_60 (by decide) rfl ?_
      refine aw_ald1 X dX5_gripper_61 rfl ?_
      refine aw_get X fd_X5_39 dX5_gripper_62 rfl hf rfl ?_
      refine aw_callV X dX5_gripper_65 rfl (k_X5_canTake X.1 w0 2 (r 4)) cmX5_canTake ml_X5_63 rfl hsc rfl rfl (Nat.le_of_ble_eq_true rfl) ⟨Nat.le_of_ble_eq_true rfl, Nat.le_of_ble_eq_true rfl⟩ (aw_rs ?_)
      refine aw_if_eq (n2 := 73) X dX5_gripper_68 rfl rfl (fun c68 => ?_) (fun c68 => ?_)
      · refine aw_ald0 X dX5_gripper_73 rfl ?_
        refine aw_iconst X (3) dX5_gripper_74 (by decide) rfl ?_
        refine aw_ald1 X dX5_gripper_75 rfl ?_
        refine aw_get X fd_X5_39 dX5_gripper_76 rfl hf rfl ?_
        refine aw_callV X dX5_gripper_79 rfl (k_X5_canTake X.1 w0 3 (r 4)) cmX5_canTake ml_X5_63 rfl hsc rfl rfl (Nat.le_of_ble_eq_true rfl) ⟨Nat.le_of_ble_eq_true rfl, Nat.le_of_ble_eq_true rfl⟩ (aw_rs ?_)
        refine aw_if_eq (n2 := 89) X dX5_gripper_82 rfl rfl (fun c82 => ?_) (fun c82 => ?_)
        · refine aw_iconst X (-1) dX5_gripper_89 (by decide) rfl ?_
          exact aw_iret X hret rfl dX5_gripper_90 (⟨by unfold gripS figAt; first | (simp_all [bI_0]; done) | (simp_all [bI_0]; grind), rfl⟩)
        · refine aw_iconst X (3) dX5_gripper_85 (by decide) rfl ?_
          refine aw_goto (n := 90) X dX5_gripper_86 rfl ?_
          exact aw_iret X hret rfl dX5_gripper_90 (⟨by unfold gripS figAt; first | (simp_all [bI_0]; done) | (simp_all [bI_0]; grind), rfl⟩)
      · refine aw_iconst X (2) dX5_gripper_71 (by decide) rfl ?_
        exact aw_iret X hret rfl dX5_gripper_72 (⟨by unfold gripS figAt; first | (simp_all [bI_0]; done) | (simp_all [bI_0]; grind), rfl⟩)
    · refine aw_iconst X (-1) dX5_gripper_57 (by decide) rfl ?_
      exact aw_iret X hret rfl dX5_gripper_58 (⟨by unfold gripS figAt; first | (simp_all [bI_0]; done) | (simp_all [bI_0]; grind), rfl⟩)
  · refine aw_ald1 X dX5_gripper_7 rfl ?_
    refine aw_get X fd_X5_53 dX5_gripper_8 rfl hf rfl ?_
    refine aw_if_ne (n2 := 18) X dX5_gripper_11 rfl rfl (fun c11 => ?_) (fun c11 => ?_)
    · refine aw_iconst X (3) dX5_gripper_18 (by decide) rfl ?_
      refine aw_ist2 X dX5_gripper_19 rfl (by decide) rfl ?_
      refine aw_ald0 X dX5_gripper_20 rfl ?_
      refine aw_ild2 X dX5_gripper_21 rfl ?_
      refine aw_callV X dX5_gripper_22 rfl (k_X5_isFree X.1 w0 _) cmX5_isFree ml_X5_46 rfl hsc rfl rfl (Nat.le_of_ble_eq_true rfl) ⟨Nat.le_of_ble_eq_true rfl, Nat.le_of_ble_eq_true rfl⟩ (aw_rs ?_)
      refine aw_if_eq (n2 := 47) X dX5_gripper_25 rfl rfl (fun c25 => ?_) (fun c25 => ?_)
      · refine aw_iconst X (-1) dX5_gripper_47 (by decide) rfl ?_
        exact aw_iret X hret rfl dX5_gripper_48 (⟨by unfold gripS figAt; first | (simp_all [bI_0]; done) | (simp_all [bI_0]; grind), rfl⟩)
      · refine aw_ald0 X dX5_gripper_28 rfl ?_
        refine aw_ald1 X dX5_gripper_29 rfl ?_
        refine aw_get X fd_X5_53 dX5_gripper_30 rfl hf rfl ?_
        refine aw_callSN X dX5_gripper_33 rfl (k_X6_edge X.1 s9) cmX6_edge mn_X5_56 rfl rfl (Nat.le_of_ble_eq_true rfl) ⟨Nat.le_of_ble_eq_true rfl, Nat.le_of_ble_eq_true rfl⟩ (aw_rs ?_)
        refine aw_callV X dX5_gripper_36 rfl (k_X5_figureAt X.1 w0 _) cmX5_figureAt ml_X5_60 rfl hsc rfl rfl (Nat.le_of_ble_eq_true rfl) ⟨Nat.le_of_ble_eq_true rfl, Nat.le_of_ble_eq_true rfl⟩ (aw_rs ?_)
        refine aw_iconst X (-1) dX5_gripper_39 (by decide) rfl ?_
        refine aw_icmp_ne (n2 := 47) X dX5_gripper_40 rfl rfl (fun c40 => ?_) (fun c40 => ?_)
        · refine aw_iconst X (-1) dX5_gripper_47 (by decide) rfl ?_
          exact aw_iret X hret rfl dX5_gripper_48 (⟨by unfold gripS figAt; first | (simp_all [bI_0]; done) | (simp_all [bI_0]; grind), rfl⟩)
        · refine aw_ild2 X dX5_gripper_43 rfl ?_
          refine aw_goto (n := 48) X dX5_gripper_44 rfl ?_
          exact aw_iret X hret rfl dX5_gripper_48 (⟨by unfold gripS figAt; first | (simp_all [bI_0]; done) | (simp_all [bI_0]; grind), rfl⟩)
    · refine aw_iconst X (2) dX5_gripper_14 (by decide) rfl ?_
      refine aw_goto (n := 19) X dX5_gripper_15 rfl ?_
      refine aw_ist2 X dX5_gripper_19 rfl (by decide) rfl ?_
      refine aw_ald0 X dX5_gripper_20 rfl ?_
      refine aw_ild2 X dX5_gripper_21 rfl ?_
      refine aw_callV X dX5_gripper_22 rfl (k_X5_isFree X.1 w0 _) cmX5_isFree ml_X5_46 rfl hsc rfl rfl (Nat.le_of_ble_eq_true rfl) ⟨Nat.le_of_ble_eq_true rfl, Nat.le_of_ble_eq_true rfl⟩ (aw_rs ?_)
      refine aw_if_eq (n2 := 47) X dX5_gripper_25 rfl rfl (fun c25 => ?_) (fun c25 => ?_)
      · refine aw_iconst X (-1) dX5_gripper_47 (by decide) rfl ?_
        exact aw_iret X hret rfl dX5_gripper_48 (⟨by unfold gripS figAt; first | (simp_all [bI_0]; done) | (simp_all [bI_0]; grind), rfl⟩)
      · refine aw_ald0 X dX5_gripper_28 rfl ?_
        refine aw_ald1 X dX5_gripper_29 rfl ?_
        refine aw_get X fd_X5_53 dX5_gripper_30 rfl hf rfl ?_
        refine aw_callSN X dX5_gripper_33 rfl (k_X6_edge X.1 s9) cmX6_edge mn_X5_56 rfl rfl (Nat.le_of_ble_eq_true rfl) ⟨Nat.le_of_ble_eq_true rfl, Nat.le_of_ble_eq_true rfl⟩ (aw_rs ?_)
        refine aw_callV X dX5_gripper_36 rfl (k_X5_figureAt X.1 w0 _) cmX5_figureAt ml_X5_60 rfl hsc rfl rfl (Nat.le_of_ble_eq_true rfl) ⟨Nat.le_of_ble_eq_true rfl, Nat.le_of_ble_eq_true rfl⟩ (aw_rs ?_)
        refine aw_iconst X (-1) dX5_gripper_39 (by decide) rfl ?_
        refine aw_icmp_ne (n2 := 47) X dX5_gripper_40 rfl rfl (fun c40 => ?_) (fun c40 => ?_)
        · refine aw_iconst X (-1) dX5_gripper_47 (by decide) rfl ?_
          exact aw_iret X hret rfl dX5_gripper_48 (⟨by unfold gripS figAt; first | (simp_all [bI_0]; done) | (simp_all [bI_0]; grind), rfl⟩)
        · refine aw_ild2 X dX5_gripper_43 rfl ?_
          refine aw_goto (n := 48) X dX5_gripper_44 rfl ?_
          exact aw_iret X hret rfl dX5_gripper_48 (⟨by unfold gripS figAt; first | (simp_all [bI_0]; done) | (simp_all [bI_0]; grind), rfl⟩)

abbrev gripF (sd : Nat → Int32) (F : Nat → Nat → Int32) (n m : Nat) : Int32 := fo (fun k u => if gripS (sd k) (F k) F n ≠ -1 then u ||| ((1 : Int32) <<< (nI k &&& 31)) else u) 0 m

set_option maxHeartbeats 4000000 in
set_option maxRecDepth 100000 in
theorem k_X5_gripableFigures {l : Launch} {s0 : State} {a0 : Array Value} {G : GG} (X : CX l s0 a0 G) {h : AH} {tw tg sc L ed cap n : Nat} {md di sw : Int32} {g : Nat → Option Nat} {fa : Nat → Nat} {F : Nat → Nat → Int32} {sd : Nat → Int32} (w : ScW G h tw sc L ed cap md n g fa F sd di sw)  : Con l s0 G yX5_gripableFigures cX5_gripableFigures 3 (some .int) 6 0 0 tg [.ref sc] h (RS (.int (gripF sd F n n)) h) := by
  refine Con.of X (by decide +kernel) [some (.ref sc), none, none] rfl (Nat.le_of_ble_eq_true rfl) (fun p e s m below meth c X hnm hret => ?_)
  have w0 := w
  obtain ⟨hsc, hli, hF, hn12, hinj⟩ := w
  refine aw_iconst X (0) dX5_gripableFigures_0 (by decide) rfl ?_
  refine aw_ist1 X dX5_gripableFigures_1 rfl (by decide) rfl ?_
  refine aw_iconst X (0) dX5_gripableFigures_2 (by decide) rfl ?_
  refine aw_ist2 X dX5_gripableFigures_3 rfl (by decide) rfl ?_
  refine aw_dn (n := n) (A := fun j k => ∀ (x : Int32), ∀ (u : Int32), (x = nI k) → (u = gripF sd F n k) → AW p l e _ s m _ below meth c _ s0 G 3 tg _ h _ _ 4 [some (.ref sc), some (.int u), some (.int x)] []) ?_ ?_ n 0 rfl 0 0 nI_0.symm rfl
  · intro x u hx hI
    refine aw_ild2 X dX5_gripableFigures_4 rfl ?_
    refine aw_ald0 X dX5_gripableFigures_5 rfl ?_
    refine aw_get X fd_X5_12 dX5_gripableFigures_6 rfl hsc rfl ?_
    refine aw_callV X dX5_gripableFigures_9 rfl (k_size X.1 hli) cmJx4a65c_size_8abf5 ml_X5_25 rfl hli.1 rfl rfl (Nat.le_of_ble_eq_true rfl) ⟨Nat.le_of_ble_eq_true rfl, Nat.le_of_ble_eq_true rfl⟩ (aw_rs ?_)
    refine aw_icmp_ge (n2 := 46) X dX5_gripableFigures_12 rfl rfl (fun c12 => ?_) (fun c12 => absurd (ge_t hx (Nat.le_refl _) (by omega)) c12)
    refine aw_ild1 X dX5_gripableFigures_46 rfl ?_
    exact aw_iret X hret rfl dX5_gripableFigures_47 (⟨by rw [hI], rfl⟩)
  · intro j k hjk ih x u hx hI
    refine aw_ild2 X dX5_gripableFigures_4 rfl ?_
    refine aw_ald0 X dX5_gripableFigures_5 rfl ?_
    refine aw_get X fd_X5_12 dX5_gripableFigures_6 rfl hsc rfl ?_
    refine aw_callV X dX5_gripableFigures_9 rfl (k_size X.1 hli) cmJx4a65c_size_8abf5 ml_X5_25 rfl hli.1 rfl rfl (Nat.le_of_ble_eq_true rfl) ⟨Nat.le_of_ble_eq_true rfl, Nat.le_of_ble_eq_true rfl⟩ (aw_rs ?_)
    refine aw_icmp_ge (n2 := 46) X dX5_gripableFigures_12 rfl rfl (fun c12 => absurd c12 (ge_f hx (by omega) (by omega))) (fun c12 => ?_)
    refine aw_ald0 X dX5_gripableFigures_15 rfl ?_
    refine aw_ald0 X dX5_gripableFigures_16 rfl ?_
    refine aw_get X fd_X5_12 dX5_gripableFigures_17 rfl hsc rfl ?_
    refine aw_ild2 X dX5_gripableFigures_20 rfl ?_
    refine aw_callV X dX5_gripableFigures_21 rfl (k_lget X.1 hli hx (by omega) (hF k (by omega)).1) cmJx4a65c_get_915e3 ml_X5_29 rfl hli.1 rfl rfl (Nat.le_of_ble_eq_true rfl) ⟨Nat.le_of_ble_eq_true rfl, Nat.le_of_ble_eq_true rfl⟩ (aw_rs ?_)
    refine aw_cast X dX5_gripableFigures_24 rfl rfl cc_X5_33 (hF k (by omega)).2 ?_
    refine aw_callV X dX5_gripableFigures_27 rfl (k_X5_gripper X.1 w0 (hF k (by omega)).2) cmX5_gripper ml_X5_66 rfl hsc rfl rfl (Nat.le_of_ble_eq_true rfl) ⟨Nat.le_of_ble_eq_true rfl, Nat.le_of_ble_eq_true rfl⟩ (aw_rs ?_)
    refine aw_iconst X (-1) dX5_gripableFigures_30 (by decide) rfl ?_
    refine aw_icmp_eq (n2 := 40) X dX5_gripableFigures_31 rfl rfl (fun c31 => ?_) (fun c31 => ?_)
    · refine aw_iinc2 X (1) dX5_gripableFigures_40 (by decide) rfl (by decide) rfl ?_
      refine aw_goto (n := 4) X dX5_gripableFigures_43 rfl ?_
      exact ih (x + 1) u (nx hx) (by rw [hI]; exact (if_neg (fun q => q c31)).symm)
    · refine aw_ild1 X dX5_gripableFigures_34 rfl ?_
      refine aw_iconst X (1) dX5_gripableFigures_35 (by decide) rfl ?_
      refine aw_ild2 X dX5_gripableFigures_36 rfl ?_
      refine aw_ishl X dX5_gripableFigures_37 rfl ?_
      refine aw_ior X dX5_gripableFigures_38 rfl ?_
      refine aw_ist1 X dX5_gripableFigures_39 rfl (by decide) rfl ?_
      refine aw_iinc2 X (1) dX5_gripableFigures_40 (by decide) rfl (by decide) rfl ?_
      refine aw_goto (n := 4) X dX5_gripableFigures_43 rfl ?_
      exact ih (x + 1) _ (nx hx) (by rw [hI, hx]; exact (if_pos c31).symm)

def fvl (r : Nat → Int32) (di sw q : Int32) : Int32 := if q = 0 then r 0 else if q = 1 then r 1 else if q = 2 then r 2 else if q = 3 then r 3 else if q = 4 then r 4 else if q = 5 then r 5 else if q = 6 then shad r di (r 5) else r 5 * (sw + 1) / 4 + r 2 / 10

set_option maxHeartbeats 4000000 in
set_option maxRecDepth 100000 in
theorem k_X5_figureValue {l : Launch} {s0 : State} {a0 : Array Value} {G : GG} (X : CX l s0 a0 G) {h : AH} {tw tg sc L ed cap n : Nat} {md di sw : Int32} {g : Nat → Option Nat} {fa : Nat → Nat} {F : Nat → Nat → Int32} {sd : Nat → Int32} (w : ScW G h tw sc L ed cap md n g fa F sd di sw) {a : Nat} {s9 : Int32} {r : Nat → Int32} (hf : h a = some (tw, cFig s9 r)) (q : Int32) : Con l s0 G yX5_figureValue cX5_figureValue 3 (some .int) 1 0 0 tg [.ref sc, .ref a, .int q] h (RS (.int (fvl r di sw q)) h) := by
  refine Con.of X (by decide +kernel) [some (.ref sc), some (.ref a), some (.int q)] rfl (Nat.le_of_ble_eq_true rfl) (fun p e s m below meth c X hnm hret => ?_)
  have w0 := w
  obtain ⟨hsc, hli, hF, hn12, hinj⟩ := w
  refine aw_ild2 X dX5_figureValue_0 rfl ?_
  by_cases s1_0 : q = 0
  · refine aw_tswIn (n := 44) X 0 dX5_figureValue_1 (by rw [s1_0]; decide) (by decide) rfl rfl ?_
    refine aw_ald1 X dX5_figureValue_44 rfl ?_
    refine aw_get X fd_X5_77 dX5_figureValue_45 rfl hf rfl ?_
    exact aw_iret X hret rfl dX5_figureValue_48 (⟨by first | (simp_all [fvl, bI_0, bI_ne, Int32.not_lt, Int32.not_le]; done) | grind [bI, bI_0, bI_ne, fvl], rfl⟩)
  · skip
    by_cases s1_1 : q = 1
    · refine aw_tswIn (n := 49) X 1 dX5_figureValue_1 (by rw [s1_1]; decide) (by decide) rfl rfl ?_
      refine aw_ald1 X dX5_figureValue_49 rfl ?_
      refine aw_get X fd_X5_70 dX5_figureValue_50 rfl hf rfl ?_
      exact aw_iret X hret rfl dX5_figureValue_53 (⟨by first | (simp_all [fvl, bI_0, bI_ne, Int32.not_lt, Int32.not_le]; done) | grind [bI, bI_0, bI_ne, fvl], rfl⟩)
    · skip
      by_cases s1_2 : q = 2
      · refine aw_tswIn (n := 54) X 2 dX5_figureValue_1 (by rw [s1_2]; decide) (by decide) rfl rfl ?_
        refine aw_ald1 X dX5_figureValue_54 rfl ?_
        refine aw_get X fd_X5_87 dX5_figureValue_55 rfl hf rfl ?_
        exact aw_iret X hret rfl dX5_figureValue_58 (⟨by first | (simp_all [fvl, bI_0, bI_ne, Int32.not_lt, Int32.not_le]; done) | grind [bI, bI_0, bI_ne, fvl], rfl⟩)
      · skip
        by_cases s1_3 : q = 3
        · refine aw_tswIn (n := 59) X 3 dX5_figureValue_1 (by rw [s1_3]; decide) (by decide) rfl rfl ?_
          refine aw_ald1 X dX5_figureValue_59 rfl ?_
          refine aw_get X fd_X5_50 dX5_figureValue_60 rfl hf rfl ?_
          exact aw_iret X hret rfl dX5_figureValue_63 (⟨by first | (simp_all [fvl, bI_0, bI_ne, Int32.not_lt, Int32.not_le]; done) | grind [bI, bI_0, bI_ne, fvl], rfl⟩)
        · skip
          by_cases s1_4 : q = 4
          · refine aw_tswIn (n := 64) X 4 dX5_figureValue_1 (by rw [s1_4]; decide) (by decide) rfl rfl ?_
            refine aw_ald1 X dX5_figureValue_64 rfl ?_
            refine aw_get X fd_X5_39 dX5_figureValue_65 rfl hf rfl ?_
            exact aw_iret X hret rfl dX5_figureValue_68 (⟨by first | (simp_all [fvl, bI_0, bI_ne, Int32.not_lt, Int32.not_le]; done) | grind [bI, bI_0, bI_ne, fvl], rfl⟩)
          · skip
            by_cases s1_5 : q = 5
            · refine aw_tswIn (n := 69) X 5 dX5_figureValue_1 (by rw [s1_5]; decide) (by decide) rfl rfl ?_
              refine aw_ald1 X dX5_figureValue_69 rfl ?_
              refine aw_get X fd_X5_80 dX5_figureValue_70 rfl hf rfl ?_
              exact aw_iret X hret rfl dX5_figureValue_73 (⟨by first | (simp_all [fvl, bI_0, bI_ne, Int32.not_lt, Int32.not_le]; done) | grind [bI, bI_0, bI_ne, fvl], rfl⟩)
            · skip
              by_cases s1_6 : q = 6
              · refine aw_tswIn (n := 74) X 6 dX5_figureValue_1 (by rw [s1_6]; decide) (by decide) rfl rfl ?_
                refine aw_ald0 X dX5_figureValue_74 rfl ?_
                refine aw_ald1 X dX5_figureValue_75 rfl ?_
                refine aw_ald1 X dX5_figureValue_76 rfl ?_
                refine aw_get X fd_X5_80 dX5_figureValue_77 rfl hf rfl ?_
                refine aw_callV X dX5_figureValue_80 rfl (k_X5_shadow X.1 w0 (r 5) hf) cmX5_shadow ml_X5_73 rfl hsc rfl rfl (Nat.le_of_ble_eq_true rfl) ⟨Nat.le_of_ble_eq_true rfl, Nat.le_of_ble_eq_true rfl⟩ (aw_rs ?_)
                exact aw_iret X hret rfl dX5_figureValue_83 (⟨by first | (simp_all [fvl, bI_0, bI_ne, Int32.not_lt, Int32.not_le]; done) | grind [bI, bI_0, bI_ne, fvl], rfl⟩)
              · skip
                refine aw_tswOut (n := 84) X dX5_figureValue_1 (tsw_out (fun q h1 h2 e => by
                  have hq : q = 0 ∨ q = 1 ∨ q = 2 ∨ q = 3 ∨ q = 4 ∨ q = 5 ∨ q = 6 := by omega
                  rcases hq with rfl | rfl | rfl | rfl | rfl | rfl | rfl
                  · exact s1_0 e
                  · exact s1_1 e
                  · exact s1_2 e
                  · exact s1_3 e
                  · exact s1_4 e
                  · exact s1_5 e
                  · exact s1_6 e)) rfl ?_
                refine aw_ald1 X dX5_figureValue_84 rfl ?_
                refine aw_get X fd_X5_80 dX5_figureValue_85 rfl hf rfl ?_
                refine aw_ald0 X dX5_figureValue_88 rfl ?_
                refine aw_get X fd_X5_22 dX5_figureValue_89 rfl hsc rfl ?_
                refine aw_iconst X (1) dX5_figureValue_92 (by decide) rfl ?_
                refine aw_iadd X dX5_figureValue_93 rfl ?_
                refine aw_imul X dX5_figureValue_94 rfl ?_
                refine aw_iconst X (4) dX5_figureValue_95 (by decide) rfl ?_
                refine aw_idiv X dX5_figureValue_96 (by decide) rfl ?_
                refine aw_ald1 X dX5_figureValue_97 rfl ?_
                refine aw_get X fd_X5_87 dX5_figureValue_98 rfl hf rfl ?_
                refine aw_bipush X (10) dX5_figureValue_101 (by decide) rfl ?_
                refine aw_idiv X dX5_figureValue_103 (by decide) rfl ?_
                refine aw_iadd X dX5_figureValue_104 rfl ?_
                exact aw_iret X hret rfl dX5_figureValue_105 (⟨by first | (simp_all [fvl, bI_0, bI_ne, Int32.not_lt, Int32.not_le]; done) | grind [bI, bI_0, bI_ne, fvl], rfl⟩)

theorem ne_at {h : AH} {a b : Nat} {x y : AC} (ha : h a = some x) (hb : h b = some y) (n : x.2 ≠ y.2) : a ≠ b := fun e => n (by rw [e, hb] at ha; cases ha; rfl)
theorem LI.kept {G : GG} {h h2 : AH} {tg L n ed cap : Nat} {g : Nat → Option Nat} {md : Int32} (w : LI G h tg L n g ed cap md) (h1 : h2 L = h L) (h9 : h2 ed = h ed) : LI G h2 tg L n g ed cap md := by
  obtain ⟨a1, a2, a3, a4⟩ := w
  refine ⟨h1.trans a1, a2, a3, ?_⟩
  rcases a4 with ⟨b1, b2, b3, t0, b4⟩ | ⟨b1, b2⟩
  · exact Or.inl ⟨b1, b2, b3, t0, h9.trans b4⟩
  · exact Or.inr ⟨b1, h9.trans b2⟩
theorem LI.ned {G : GG} {h : AH} {tg L n ed cap : Nat} {g : Nat → Option Nat} {md : Int32} (w : LI G h tg L n g ed cap md) {a t : Nat} {x : AE} (ha : h a = some (t, x)) (hx : ∀ c g, x ≠ oArr c g) : a ≠ ed := by
  obtain ⟨t9, h9⟩ := w.arr
  exact ne_at ha h9 (hx _ _)
theorem LI.nl {G : GG} {h : AH} {tg L n ed cap : Nat} {g : Nat → Option Nat} {md : Int32} (w : LI G h tg L n g ed cap md) {a t : Nat} {x : AE} (ha : h a = some (t, x)) (hx : ∀ m e n, x ≠ oLst m e n) : a ≠ L := ne_at ha w.1 (hx _ _ _)
/-- the row k of a table is another -/
def upF (F : Nat → Nat → Int32) (k : Nat) (r : Nat → Int32) : Nat → Nat → Int32 := fun i => if i = k then r else F i
theorem ScW.put {G : GG} {h : AH} {tg sc L ed cap n : Nat} {md di sw : Int32} {g : Nat → Option Nat} {fa : Nat → Nat} {F : Nat → Nat → Int32} {sd : Nat → Int32} (w : ScW G h tg sc L ed cap md n g fa F sd di sw) {k : Nat} (hk : k < n) (r : Nat → Int32) : ScW G (hu h (fa k) (tg, cFig (sd k) r)) tg sc L ed cap md n g fa (upF F k r) sd di sw := by
  obtain ⟨h1, h2, h3, h4, h5⟩ := w
  have hf := (h3 k hk).2
  refine ⟨(hu_n (ne_at h1 hf (fun e => by cases e))).trans h1, h2.kept (hu_n (h2.nl hf (fun _ _ _ e => by cases e)).symm) (hu_n (h2.ned hf (fun _ _ e => by cases e)).symm), fun i hi => ⟨(h3 i hi).1, ?_⟩, h4, h5⟩
  by_cases q : i = k
  · subst q
    rw [hu_s]
    show _ = some (tg, cFig (sd i) (if i = i then r else F i))
    rw [if_pos rfl]
  · rw [hu_n (fun e => q (h5 i k hi hk e))]
    show _ = some (tg, cFig (sd i) (if i = k then r else F i))
    rw [if_neg q]
    exact (h3 i hi).2
/-- a half hour's wear of the figures ahead of k that are on the screen -/
def wearF1 (F : Nat → Nat → Int32) (k : Nat) : Nat → Nat → Int32 := fun i => if i < k ∧ F i 3 ≠ 0 then wearR (F i) 1 else F i
theorem wearF1_0 (F : Nat → Nat → Int32) : wearF1 F 0 = F := funext fun i => if_neg (fun q => Nat.not_lt_zero _ q.1)
theorem wearF1_at (F : Nat → Nat → Int32) (k : Nat) : wearF1 F k k = F k := if_neg (fun q => Nat.lt_irrefl _ q.1)
theorem wearF1_y {F : Nat → Nat → Int32} {k : Nat} (h : F k 3 ≠ 0) : upF (wearF1 F k) k (wearR (F k) 1) = wearF1 F (k + 1) := by
  funext i
  unfold upF wearF1
  by_cases q : i = k
  · subst q
    rw [if_pos rfl, if_pos ⟨Nat.lt_succ_self _, h⟩]
  · rw [if_neg q]
    by_cases q2 : i < k ∧ F i 3 ≠ 0
    · rw [if_pos q2, if_pos ⟨by omega, q2.2⟩]
    · rw [if_neg q2, if_neg (fun z => q2 ⟨by omega, z.2⟩)]
theorem wearF1_n {F : Nat → Nat → Int32} {k : Nat} (h : ¬ F k 3 ≠ 0) : wearF1 F k = wearF1 F (k + 1) := by
  funext i
  unfold wearF1
  by_cases q2 : i < k ∧ F i 3 ≠ 0
  · rw [if_pos q2, if_pos ⟨by omega, q2.2⟩]
  · rw [if_neg q2, if_neg (fun z => q2 ⟨by
      have : i ≠ k := fun e => h (by rw [← e]; exact z.2)
      omega, z.2⟩)]

set_option maxHeartbeats 4000000 in
set_option maxRecDepth 100000 in
theorem k_X5_wearShown {l : Launch} {s0 : State} {a0 : Array Value} {G : GG} (X : CX l s0 a0 G) {h : AH} {tg sc L ed cap n : Nat} {md di sw : Int32} {g : Nat → Option Nat} {fa : Nat → Nat} {F : Nat → Nat → Int32} {sd : Nat → Int32} (w : ScW G h tg sc L ed cap md n g fa F sd di sw) (htg : tg ≠ 0) : Con l s0 G yX5_wearShown cX5_wearShown 3 none 4 0 0 tg [.ref sc] h (fun r h2 => none = r ∧ ScW G h2 tg sc L ed cap md n g fa (wearF1 F n) sd di sw ∧ ∀ a, (∀ i, i < n → a ≠ fa i) → h2 a = h a) := by
  refine Con.of X (by decide +kernel) [some (.ref sc), none, none] rfl (Nat.le_of_ble_eq_true rfl) (fun p e s m below meth c X hnm hret => ?_)
  have hn12 := w.2.2.2.1
  refine aw_iconst X (0) dX5_wearShown_0 (by decide) rfl ?_
  refine aw_ist1 X dX5_wearShown_1 rfl (by decide) rfl ?_
  refine aw_dn (n := n) (A := fun j k => ∀ (y2 : Option Value), ∀ (x : Int32), ∀ (h9 : AH), (x = nI k) → (ScW G h9 tg sc L ed cap md n g fa (wearF1 F k) sd di sw) → (∀ a, (∀ i, i < n → a ≠ fa i) → h9 a = h a) → AW p l e _ s m _ below meth c _ s0 G 3 tg _ h9 _ _ 2 [some (.ref sc), some (.int x), y2] []) ?_ ?_ n 0 rfl none 0 h nI_0.symm (by rw [wearF1_0]; exact w) (fun _ _ => rfl)
  · intro y2 x h9 hx hw9 hk9
    obtain ⟨hsc, hli, hF, -, hinj⟩ := id hw9
    refine aw_ild1 X dX5_wearShown_2 rfl ?_
    refine aw_ald0 X dX5_wearShown_3 rfl ?_
    refine aw_get X fd_X5_12 dX5_wearShown_4 rfl hsc rfl ?_
    refine aw_callV X dX5_wearShown_7 rfl (k_size X.1 hli) cmJx4a65c_size_8abf5 ml_X5_25 rfl hli.1 rfl rfl (Nat.le_of_ble_eq_true rfl) ⟨Nat.le_of_ble_eq_true rfl, Nat.le_of_ble_eq_true rfl⟩ (aw_rs ?_)
    refine aw_icmp_ge (n2 := 43) X dX5_wearShown_10 rfl rfl (fun c10 => ?_) (fun c10 => absurd (ge_t hx (Nat.le_refl _) (by omega)) c10)
    exact aw_vret X hret dX5_wearShown_43 (⟨rfl, hw9, hk9⟩)
  · intro j k hjk ih y2 x h9 hx hw9 hk9
    obtain ⟨hsc, hli, hF, hn12, hinj⟩ := id hw9
    have hFk := hF k (by omega)
    rw [wearF1_at] at hFk
    refine aw_ild1 X dX5_wearShown_2 rfl ?_
    refine aw_ald0 X dX5_wearShown_3 rfl ?_
    refine aw_get X fd_X5_12 dX5_wearShown_4 rfl hsc rfl ?_
    refine aw_callV X dX5_wearShown_7 rfl (k_size X.1 hli) cmJx4a65c_size_8abf5 ml_X5_25 rfl hli.1 rfl rfl (Nat.le_of_ble_eq_true rfl) ⟨Nat.le_of_ble_eq_true rfl, Nat.le_of_ble_eq_true rfl⟩ (aw_rs ?_)
    refine aw_icmp_ge (n2 := 43) X dX5_wearShown_10 rfl rfl (fun c10 => absurd c10 (ge_f hx (by omega) (by omega))) (fun c10 => ?_)
    refine aw_ald0 X dX5_wearShown_13 rfl ?_
    refine aw_get X fd_X5_12 dX5_wearShown_14 rfl hsc rfl ?_
    refine aw_ild1 X dX5_wearShown_17 rfl ?_
    refine aw_callV X dX5_wearShown_18 rfl (k_lget X.1 hli hx (by omega) hFk.1) cmJx4a65c_get_915e3 ml_X5_29 rfl hli.1 rfl rfl (Nat.le_of_ble_eq_true rfl) ⟨Nat.le_of_ble_eq_true rfl, Nat.le_of_ble_eq_true rfl⟩ (aw_rs ?_)
    refine aw_cast X dX5_wearShown_21 rfl rfl cc_X5_33 hFk.2 ?_
    refine aw_ast2 X dX5_wearShown_24 rfl (by decide) rfl ?_
    refine aw_ald2 X dX5_wearShown_25 rfl ?_
    refine aw_callV X dX5_wearShown_26 rfl (k_shown X.1 hFk.2) cmX0_shown ml_X5_35 rfl hFk.2 rfl rfl (Nat.le_of_ble_eq_true rfl) ⟨Nat.le_of_ble_eq_true rfl, Nat.le_of_ble_eq_true rfl⟩ (aw_rs ?_)
    refine aw_if_eq (n2 := 37) X dX5_wearShown_29 rfl rfl (fun c29 => ?_) (fun c29 => ?_)
    · refine aw_iinc1 X (1) dX5_wearShown_37 (by decide) rfl (by decide) rfl ?_
      refine aw_goto (n := 2) X dX5_wearShown_40 rfl ?_
      exact ih _ (x + 1) h9 (nx hx) (by rw [← wearF1_n (by simpa [bI_0] using c29)]; exact hw9) hk9
    · refine aw_ald2 X dX5_wearShown_32 rfl ?_
      refine aw_iconst X (1) dX5_wearShown_33 (by decide) rfl ?_
      refine aw_callV X dX5_wearShown_34 rfl (k_wearBy X.1 htg 1 hFk.2) cmX0_wearBy ml_X5_83 rfl hFk.2 rfl rfl (Nat.le_of_ble_eq_true rfl) ⟨Nat.le_of_ble_eq_true rfl, Nat.le_of_ble_eq_true rfl⟩ (aw_rv ?_)
      refine aw_iinc1 X (1) dX5_wearShown_37 (by decide) rfl (by decide) rfl ?_
      refine aw_goto (n := 2) X dX5_wearShown_40 rfl ?_
      exact ih _ (x + 1) _ (nx hx) (by rw [← wearF1_y (by simpa [bI_0] using c29)]; exact hw9.put (by omega) _) (fun a ha => (hu_n (ha k (by omega))).trans (hk9 a ha))

set_option maxHeartbeats 4000000 in
set_option maxRecDepth 100000 in
theorem k_X5_init {l : Launch} {s0 : State} {a0 : Array Value} {G : GG} (X : CX l s0 a0 G) {h : AH} {a tg : Nat} (htg : tg ≠ 0) (ha : h a = some (tg, .inr (7, [.null, .int 0, .int 0]))) : Con l s0 G yX5_init cX5_init 1 none 4 1 3 tg [.ref a] h (fun r h2 => none = r ∧ ∃ q, h q = none ∧ hu (hu h q (tg, oLst 0 (G.2.2 0) 0)) a (tg, .inr (7, [.ref q, .int 50, .int 0])) = h2) := by
  refine Con.of X (by decide +kernel) [some (.ref a)] rfl (Nat.le_of_ble_eq_true rfl) (fun p e s m below meth c X hnm hret => ?_)
  refine aw_ald0 X dX5_init_0 rfl ?_
  refine aw_objInit X dX5_init_1 rfl ⟨ml_X5_3, oi_ok⟩ (Nat.le_of_ble_eq_true rfl) (Nat.le_of_ble_eq_true rfl) ?_
  refine aw_ald0 X dX5_init_4 rfl ?_
  refine aw_new X nw_X5_9 dX5_init_5 rfl (fun q5 hq5 => ?_)
  refine aw_dup X dX5_init_8 rfl rfl ?_
  refine aw_callI X dX5_init_9 rfl (k_Jx4a65c_init_da8c8 X.1 htg hu_s) cmJx4a65c_init_da8c8 ml_X5_11 rfl rfl (Nat.le_of_ble_eq_true rfl) ⟨Nat.le_of_ble_eq_true rfl, Nat.le_of_ble_eq_true rfl⟩ (aw_rv ?_)
  refine aw_putF X fd_X5_12 fi_X5_0 hnm dX5_init_12 rfl htg ((hu_n (fun e => by rw [← e, ha] at hq5; cases hq5)).trans (hu_k hq5 ha)) rfl rfl (Nat.le_of_ble_eq_true rfl) ?_
  refine aw_ald0 X dX5_init_15 rfl ?_
  refine aw_bipush X (50) dX5_init_16 (by decide) rfl ?_
  refine aw_put X fd_X5_18 fw_X5_1 dX5_init_18 rfl htg hu_s rfl rfl (Nat.le_of_ble_eq_true rfl) ?_
  refine aw_ald0 X dX5_init_21 rfl ?_
  refine aw_iconst X (0) dX5_init_22 (by decide) rfl ?_
  refine aw_put X fd_X5_22 fw_X5_2 dX5_init_23 rfl htg hu_s rfl rfl (Nat.le_of_ble_eq_true rfl) ?_
  exact aw_vret X hret dX5_init_26 (⟨rfl, q5, hq5, by simp only [hu_hu]; rfl⟩)
