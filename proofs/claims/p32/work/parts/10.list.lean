/-! the JDK's lists -/
theorem ac_ok : TW (.native arraycopyName) ∧ TW (.static arraycopyName) ∧ TW (.initialized "java/lang/System") := ⟨⟨List.mem_of_getElem? (i := 696) (by decide +kernel), by decide +kernel⟩, ⟨List.mem_of_getElem? (i := 695) (by decide +kernel), by decide +kernel⟩, ⟨List.mem_of_getElem? (i := 39) (by decide +kernel), by decide +kernel⟩⟩

theorem gc_ok : TW (.selects "[Ljava/lang/Object;" ogC ogC) ∧ TW (.instanceMethod ogC) ∧ TW (.native ogC) ∧ (Cond.declares ogC) ∈ lw_tbl := ⟨⟨List.mem_of_getElem? (i := 908) (by decide +kernel), by decide +kernel⟩, ⟨List.mem_of_getElem? (i := 673) (by decide +kernel), by decide +kernel⟩, ⟨List.mem_of_getElem? (i := 686) (by decide +kernel), by decide +kernel⟩, List.mem_of_getElem? (i := 909) (by decide +kernel)⟩

theorem hmin (k len : Nat) (h1 : k < 2 ^ 31) (h2 : len < 2 ^ 31) : (if nI k < nI len then nI k else nI len) = nI (if k < len then k else len) := by
  by_cases c : k < len
  · rw [if_pos c, if_pos (nI_lt c h2)]
  · rw [if_neg c, if_neg (nI_nlt (by omega) (by omega))]

set_option maxHeartbeats 4000000 in
set_option maxRecDepth 100000 in
theorem k_J3_checkIndex_8e157 {l : Launch} {s0 : State} {a0 : Array Value} {G : GG} (X : CX l s0 a0 G) {h : AH} {tg k n : Nat} (hk : k < n) (hn : n < 2 ^ 31) : Con l s0 G yJ3_checkIndex_8e157 cJ3_checkIndex_8e157 3 (some .int) 0 0 0 tg [.int (nI k), .int (nI n), .null] h (RS (.int (nI k)) h) := by
  refine Con.of X (by decide +kernel) [some (.int (nI k)), some (.int (nI n)), some (.null)] rfl (Nat.le_of_ble_eq_true rfl) (fun p e s m below meth c X hnm hret => ?_)
  refine aw_ild0 X dJ3_checkIndex_8e157_0 rfl ?_
  refine aw_if_lt (n2 := 9) X dJ3_checkIndex_8e157_1 rfl rfl (fun c1 => absurd c1 (nI_pos (by omega))) (fun c1 => ?_)
  refine aw_ild0 X dJ3_checkIndex_8e157_4 rfl ?_
  refine aw_ild1 X dJ3_checkIndex_8e157_5 rfl ?_
  refine aw_icmp_lt (n2 := 16) X dJ3_checkIndex_8e157_6 rfl rfl (fun c6 => ?_) (fun c6 => absurd (nI_lt hk (by omega)) c6)
  refine aw_ild0 X dJ3_checkIndex_8e157_16 rfl ?_
  exact aw_iret X hret rfl dJ3_checkIndex_8e157_17 (⟨rfl, rfl⟩)

set_option maxHeartbeats 4000000 in
set_option maxRecDepth 100000 in
theorem k_J15_checkIndex_7cf53 {l : Launch} {s0 : State} {a0 : Array Value} {G : GG} (X : CX l s0 a0 G) {h : AH} {tg k n : Nat} (hk : k < n) (hn : n < 2 ^ 31) : Con l s0 G yJ15_checkIndex_7cf53 cJ15_checkIndex_7cf53 2 (some .int) 1 0 0 tg [.int (nI k), .int (nI n)] h (RS (.int (nI k)) h) := by
  refine Con.of X (by decide +kernel) [some (.int (nI k)), some (.int (nI n))] rfl (Nat.le_of_ble_eq_true rfl) (fun p e s m below meth c X hnm hret => ?_)
  refine aw_ild0 X dJ15_checkIndex_7cf53_0 rfl ?_
  refine aw_ild1 X dJ15_checkIndex_7cf53_1 rfl ?_
  refine aw_null X dJ15_checkIndex_7cf53_2 rfl ?_
  refine aw_callS X dJ15_checkIndex_7cf53_3 rfl (k_J3_checkIndex_8e157 X.1 hk hn) cmJ3_checkIndex_8e157 ml_J15_105 rfl rfl (Nat.le_of_ble_eq_true rfl) ⟨Nat.le_of_ble_eq_true rfl, Nat.le_of_ble_eq_true rfl⟩ (aw_rs ?_)
  exact aw_iret X hret rfl dJ15_checkIndex_7cf53_6 (⟨rfl, rfl⟩)

set_option maxHeartbeats 4000000 in
set_option maxRecDepth 100000 in
theorem k_Jx4a65c_size_8abf5 {l : Launch} {s0 : State} {a0 : Array Value} {G : GG} (X : CX l s0 a0 G) {h : AH} {tg tL L ed n : Nat} {md : Int32} (hL : h L = some (tL, oLst md ed (nI n)))  : Con l s0 G yJx4a65c_size_8abf5 cJx4a65c_size_8abf5 1 (some .int) 0 0 0 tg [.ref L] h (RS (.int (nI n)) h) := by
  refine Con.of X (by decide +kernel) [some (.ref L)] rfl (Nat.le_of_ble_eq_true rfl) (fun p e s m below meth c X hnm hret => ?_)
  refine aw_ald0 X dJx4a65c_size_8abf5_0 rfl ?_
  refine aw_get X fd_Jx4a65c_48 dJx4a65c_size_8abf5_1 rfl hL rfl ?_
  exact aw_iret X hret rfl dJx4a65c_size_8abf5_4 (⟨rfl, rfl⟩)

set_option maxHeartbeats 4000000 in
set_option maxRecDepth 100000 in
theorem k_Jx4a65c_elementData_915e3 {l : Launch} {s0 : State} {a0 : Array Value} {G : GG} (X : CX l s0 a0 G) {h : AH} {tg tL tE L ed cap k y : Nat} {n md : Int32} {g : Nat → Option Nat} (hL : h L = some (tL, oLst md ed n)) (hE : h ed = some (tE, oArr cap g)) (hk : k < cap) (hc : cap < 2 ^ 31) (hy : g k = some y) : Con l s0 G yJx4a65c_elementData_915e3 cJx4a65c_elementData_915e3 2 (some (.object "java/lang/Object")) 0 0 0 tg [.ref L, .int (nI k)] h (RS (.ref y) h) := by
  refine Con.of X (by decide +kernel) [some (.ref L), some (.int (nI k))] rfl (Nat.le_of_ble_eq_true rfl) (fun p e s m below meth c X hnm hret => ?_)
  refine aw_ald0 X dJx4a65c_elementData_915e3_0 rfl ?_
  refine aw_get X fd_Jx4a65c_9 dJx4a65c_elementData_915e3_1 rfl hL rfl ?_
  refine aw_ild1 X dJx4a65c_elementData_915e3_4 rfl ?_
  refine aw_aald X k dJx4a65c_elementData_915e3_5 rfl hE rfl hk hc hy ?_
  exact aw_aret X hret (Or.inl ⟨_, rfl⟩) dJx4a65c_elementData_915e3_6 (⟨rfl, rfl⟩)

set_option maxHeartbeats 4000000 in
set_option maxRecDepth 100000 in
theorem k_Jx4a65c_get_915e3 {l : Launch} {s0 : State} {a0 : Array Value} {G : GG} (X : CX l s0 a0 G) {h : AH} {tg tL tE L ed cap n k : Nat} {md : Int32} {g : Nat → Option Nat} {y : Nat} (hL : h L = some (tL, oLst md ed (nI n))) (hE : h ed = some (tE, oArr cap g)) (hk : k < n) (hn : n ≤ cap) (hc : cap < 2 ^ 31) (hy : g k = some y) : Con l s0 G yJx4a65c_get_915e3 cJx4a65c_get_915e3 2 (some (.object "java/lang/Object")) 2 0 0 tg [.ref L, .int (nI k)] h (RS (.ref y) h) := by
  refine Con.of X (by decide +kernel) [some (.ref L), some (.int (nI k))] rfl (Nat.le_of_ble_eq_true rfl) (fun p e s m below meth c X hnm hret => ?_)
  refine aw_ild1 X dJx4a65c_get_915e3_0 rfl ?_
  refine aw_ald0 X dJx4a65c_get_915e3_1 rfl ?_
  refine aw_get X fd_Jx4a65c_48 dJx4a65c_get_915e3_2 rfl hL rfl ?_
  refine aw_callS X dJx4a65c_get_915e3_5 rfl (k_J15_checkIndex_7cf53 X.1 hk (by omega)) cmJ15_checkIndex_7cf53 ml_Jx4a65c_118 rfl rfl (Nat.le_of_ble_eq_true rfl) ⟨Nat.le_of_ble_eq_true rfl, Nat.le_of_ble_eq_true rfl⟩ (aw_rs ?_)
  refine aw_pop X dJx4a65c_get_915e3_8 rfl rfl ?_
  refine aw_ald0 X dJx4a65c_get_915e3_9 rfl ?_
  refine aw_ild1 X dJx4a65c_get_915e3_10 rfl ?_
  refine aw_callV X dJx4a65c_get_915e3_11 rfl (k_Jx4a65c_elementData_915e3 X.1 hL hE (by omega) hc hy) cmJx4a65c_elementData_915e3 ml_Jx4a65c_123 rfl hL rfl rfl (Nat.le_of_ble_eq_true rfl) ⟨Nat.le_of_ble_eq_true rfl, Nat.le_of_ble_eq_true rfl⟩ (aw_rs ?_)
  exact aw_aret X hret (Or.inl ⟨_, rfl⟩) dJx4a65c_get_915e3_14 (⟨rfl, rfl⟩)

set_option maxHeartbeats 4000000 in
set_option maxRecDepth 100000 in
theorem k_Jx4a65c_set_bcc79 {l : Launch} {s0 : State} {a0 : Array Value} {G : GG} (X : CX l s0 a0 G) {h : AH} {tg tL L ed cap n k : Nat} {md : Int32} {g : Nat → Option Nat} {y v tv : Nat} {xv : AE} (htg : tg ≠ 0) (hL : h L = some (tL, oLst md ed (nI n))) (hE : h ed = some (tg, oArr cap g)) (hk : k < n) (hn : n ≤ cap) (hc : cap < 2 ^ 31) (hy : g k = some y) (hv : h v = some (tv, xv)) (ho : OB xv) : Con l s0 G yJx4a65c_set_bcc79 cJx4a65c_set_bcc79 4 (some (.object "java/lang/Object")) 2 0 0 tg [.ref L, .int (nI k), .ref v] h (RS (.ref y) (hu h ed (tg, oArr cap (va_up g k (some v))))) := by
  refine Con.of X (by decide +kernel) [some (.ref L), some (.int (nI k)), some (.ref v), none] rfl (Nat.le_of_ble_eq_true rfl) (fun p e s m below meth c X hnm hret => ?_)
  refine aw_ild1 X dJx4a65c_set_bcc79_0 rfl ?_
  refine aw_ald0 X dJx4a65c_set_bcc79_1 rfl ?_
  refine aw_get X fd_Jx4a65c_48 dJx4a65c_set_bcc79_2 rfl hL rfl ?_
  refine aw_callS X dJx4a65c_set_bcc79_5 rfl (k_J15_checkIndex_7cf53 X.1 hk (by omega)) cmJ15_checkIndex_7cf53 ml_Jx4a65c_118 rfl rfl (Nat.le_of_ble_eq_true rfl) ⟨Nat.le_of_ble_eq_true rfl, Nat.le_of_ble_eq_true rfl⟩ (aw_rs ?_)
  refine aw_pop X dJx4a65c_set_bcc79_8 rfl rfl ?_
  refine aw_ald0 X dJx4a65c_set_bcc79_9 rfl ?_
  refine aw_ild1 X dJx4a65c_set_bcc79_10 rfl ?_
  refine aw_callV X dJx4a65c_set_bcc79_11 rfl (k_Jx4a65c_elementData_915e3 X.1 hL hE (by omega) hc hy) cmJx4a65c_elementData_915e3 ml_Jx4a65c_123 rfl hL rfl rfl (Nat.le_of_ble_eq_true rfl) ⟨Nat.le_of_ble_eq_true rfl, Nat.le_of_ble_eq_true rfl⟩ (aw_rs ?_)
  refine aw_ast3 X dJx4a65c_set_bcc79_14 rfl (by decide) rfl ?_
  refine aw_ald0 X dJx4a65c_set_bcc79_15 rfl ?_
  refine aw_get X fd_Jx4a65c_9 dJx4a65c_set_bcc79_16 rfl hL rfl ?_
  refine aw_ild1 X dJx4a65c_set_bcc79_19 rfl ?_
  refine aw_ald2 X dJx4a65c_set_bcc79_20 rfl ?_
  refine aw_aast X k dJx4a65c_set_bcc79_21 rfl htg hE hv ho rfl (by omega) hc ?_
  refine aw_ald3 X dJx4a65c_set_bcc79_22 rfl ?_
  exact aw_aret X hret (Or.inl ⟨_, rfl⟩) dJx4a65c_set_bcc79_23 (⟨rfl, rfl⟩)

set_option maxHeartbeats 4000000 in
set_option maxRecDepth 100000 in
theorem k_Jxa1e45_init_da8c8 {l : Launch} {s0 : State} {a0 : Array Value} {G : GG} (X : CX l s0 a0 G) {h : AH} {tg L : Nat} : Con l s0 G yJxa1e45_init_da8c8 cJxa1e45_init_da8c8 1 none 1 0 0 tg [.ref L] h (RV h) := by
  refine Con.of X (by decide +kernel) [some (.ref L)] rfl (Nat.le_of_ble_eq_true rfl) (fun p e s m below meth c X hnm hret => ?_)
  refine aw_ald0 X dJxa1e45_init_da8c8_0 rfl ?_
  refine aw_objInit X dJxa1e45_init_da8c8_1 rfl ⟨ml_Jxa1e45_1, oi_ok⟩ (Nat.le_of_ble_eq_true rfl) (Nat.le_of_ble_eq_true rfl) ?_
  exact aw_vret X hret dJxa1e45_init_da8c8_4 (⟨rfl, rfl⟩)

set_option maxHeartbeats 4000000 in
set_option maxRecDepth 100000 in
theorem k_Jxc12de_init_da8c8 {l : Launch} {s0 : State} {a0 : Array Value} {G : GG} (X : CX l s0 a0 G) {h : AH} {tg L ed : Nat} {n : Int32} (htg : tg ≠ 0) (hL : h L = some (tg, .inr (1, [.int 0, .null, .int n]))) : Con l s0 G yJxc12de_init_da8c8 cJxc12de_init_da8c8 1 none 2 0 0 tg [.ref L] h (RV h) := by
  refine Con.of X (by decide +kernel) [some (.ref L)] rfl (Nat.le_of_ble_eq_true rfl) (fun p e s m below meth c X hnm hret => ?_)
  refine aw_ald0 X dJxc12de_init_da8c8_0 rfl ?_
  refine aw_callI X dJxc12de_init_da8c8_1 rfl (k_Jxa1e45_init_da8c8 X.1 (L := L)) cmJxa1e45_init_da8c8 ml_Jxc12de_1 rfl rfl (Nat.le_of_ble_eq_true rfl) ⟨Nat.le_of_ble_eq_true rfl, Nat.le_of_ble_eq_true rfl⟩ (aw_rv ?_)
  refine aw_ald0 X dJxc12de_init_da8c8_4 rfl ?_
  refine aw_iconst X (0) dJxc12de_init_da8c8_5 (by decide) rfl ?_
  refine aw_put X fd_Jxc12de_7 fw_Jx4a65c_0 dJxc12de_init_da8c8_6 rfl htg hL rfl rfl (Nat.le_of_ble_eq_true rfl) ?_
  exact aw_vret X hret dJxc12de_init_da8c8_9 (⟨rfl, (hu_id hL).symm⟩)

set_option maxHeartbeats 4000000 in
set_option maxRecDepth 100000 in
theorem k_Jx4a65c_init_da8c8 {l : Launch} {s0 : State} {a0 : Array Value} {G : GG} (X : CX l s0 a0 G) {h : AH} {tg L : Nat} (htg : tg ≠ 0) (hL : h L = some (tg, .inr (1, [.int 0, .null, .int 0]))) : Con l s0 G yJx4a65c_init_da8c8 cJx4a65c_init_da8c8 1 none 3 0 0 tg [.ref L] h (RV (hu h L (tg, oLst 0 (G.2.2 0) 0))) := by
  refine Con.of X (by decide +kernel) [some (.ref L)] rfl (Nat.le_of_ble_eq_true rfl) (fun p e s m below meth c X hnm hret => ?_)
  refine aw_ald0 X dJx4a65c_init_da8c8_0 rfl ?_
  refine aw_callI X dJx4a65c_init_da8c8_1 rfl (k_Jxc12de_init_da8c8 X.1 (ed := 0) htg hL) cmJxc12de_init_da8c8 ml_Jx4a65c_1 rfl rfl (Nat.le_of_ble_eq_true rfl) ⟨Nat.le_of_ble_eq_true rfl, Nat.le_of_ble_eq_true rfl⟩ (aw_rv ?_)
  refine aw_ald0 X dJx4a65c_init_da8c8_4 rfl ?_
  refine aw_gets0 X dJx4a65c_init_da8c8_5 rfl fs_Jx4a65c_39 ?_
  refine aw_put X fd_Jx4a65c_9 fw_Jx4a65c_1 dJx4a65c_init_da8c8_8 rfl htg hL rfl rfl (Nat.le_of_ble_eq_true rfl) ?_
  exact aw_vret X hret dJx4a65c_init_da8c8_11 (⟨rfl, rfl⟩)

theorem ex_hu {h : AH} {q y : Nat} {c : AC} (hq : h q = none) (e : ∃ ty x, h y = some (ty, x) ∧ OB x) : ∃ ty x, hu h q c y = some (ty, x) ∧ OB x := by
  obtain ⟨ty, x, e1, e2⟩ := e
  exact ⟨ty, x, (hu_n (fun z => by rw [z, hq] at e1; cases e1)).trans e1, e2⟩

theorem hu_k {h : AH} {q y : Nat} {c d : AC} (hq : h q = none) (e : h y = some d) : hu h q c y = some d := (hu_n (fun z => by rw [z, hq] at e; cases e)).trans e

set_option maxHeartbeats 4000000 in
set_option maxRecDepth 100000 in
theorem k_J7_copyOf_6403c {l : Launch} {s0 : State} {a0 : Array Value} {G : GG} (X : CX l s0 a0 G) {h : AH} {tg a t len k : Nat} {g : Nat → Option Nat} (htg : tg ≠ 0) (ha : h a = some (t, oArr len g)) (hl : len < 65536) (hk : k < 65536) (hel : ∀ j, j < len → ∀ y, g j = some y → ∃ ty x, h y = some (ty, x) ∧ OB x) : Con l s0 G yJ7_copyOf_6403c cJ7_copyOf_6403c 4 (some (.array (.object "java/lang/Object"))) 1 1 k tg [.ref a, .int (nI k), .ref (G.2.2 2)] h (fun r h2 => ∃ q, h q = none ∧ some (.ref q) = r ∧ hu h q (tg, oArr k (va_cpy g (fun _ => none) 0 0 (if k < len then k else len))) = h2) := by
  refine Con.of X (by decide +kernel) [some (.ref a), some (.int (nI k)), some (.ref (G.2.2 2)), none] rfl (Nat.le_of_ble_eq_true rfl) (fun p e s m below meth c X hnm hret => ?_)
  refine aw_ald2 X dJ7_copyOf_6403c_0 rfl ?_
  refine aw_ldcC X dJ7_copyOf_6403c_1 rfl cc_J7_110 X.1.2.2.2.2.2.2.2.2.1 ?_
  refine aw_acmp_ne (n2 := 13) X dJ7_copyOf_6403c_3 rfl rfl (fun c3 => absurd (rfl : G.2.2 2 = G.2.2 2) c3) (fun c3 => ?_)
  refine aw_ild1 X dJ7_copyOf_6403c_6 rfl ?_
  refine AW.mono (bc2 := 0 + 1) (bs2 := 0 + k) (by omega) (by omega) ?_
  refine aw_newq X dJ7_copyOf_6403c_7 rfl cc_J7_2 rfl hk (fun q7 hq7 => ?_)
  refine aw_goto (n := 24) X dJ7_copyOf_6403c_10 rfl ?_
  refine aw_ast3 X dJ7_copyOf_6403c_24 rfl (by decide) rfl ?_
  refine aw_ald0 X dJ7_copyOf_6403c_25 rfl ?_
  refine aw_iconst X (0) dJ7_copyOf_6403c_26 (by decide) rfl ?_
  refine aw_ald3 X dJ7_copyOf_6403c_27 rfl ?_
  refine aw_iconst X (0) dJ7_copyOf_6403c_28 (by decide) rfl ?_
  refine aw_ald0 X dJ7_copyOf_6403c_29 rfl ?_
  refine aw_alen X dJ7_copyOf_6403c_30 rfl (hu_k hq7 ha) (by decide) ?_
  refine aw_ild1 X dJ7_copyOf_6403c_31 rfl ?_
  refine aw_mmin X dJ7_copyOf_6403c_32 rfl ⟨ml_J7_304, mm_min⟩ (Nat.le_of_ble_eq_true rfl) (Nat.le_of_ble_eq_true rfl) ?_
  refine aw_acopy X dJ7_copyOf_6403c_35 rfl htg ⟨ml_J7_150, ac_ok⟩ (hu_k hq7 ha) hu_s (hmin k len (by omega) (by omega)) (by split <;> omega) (by split <;> omega) (by split <;> omega) (fun j hj y hy => ex_hu hq7 (hel j (by split at hj <;> omega) y hy)) (Nat.le_of_ble_eq_true rfl) (Nat.le_of_ble_eq_true rfl) ?_
  refine aw_ald3 X dJ7_copyOf_6403c_38 rfl ?_
  exact aw_aret X hret (Or.inr ⟨_, rfl⟩) dJ7_copyOf_6403c_39 (⟨q7, hq7, rfl, hu_hu.symm⟩)

set_option maxHeartbeats 4000000 in
set_option maxRecDepth 100000 in
theorem k_J7_copyOf_1904c {l : Launch} {s0 : State} {a0 : Array Value} {G : GG} (X : CX l s0 a0 G) {h : AH} {tg a t len k : Nat} {g : Nat → Option Nat} (htg : tg ≠ 0) (ha : h a = some (t, oArr len g)) (hl : len < 65536) (hk : k < 65536) (hel : ∀ j, j < len → ∀ y, g j = some y → ∃ ty x, h y = some (ty, x) ∧ OB x) : Con l s0 G yJ7_copyOf_1904c cJ7_copyOf_1904c 2 (some (.array (.object "java/lang/Object"))) 2 1 k tg [.ref a, .int (nI k)] h (fun r h2 => ∃ q, h q = none ∧ some (.ref q) = r ∧ hu h q (tg, oArr k (va_cpy g (fun _ => none) 0 0 (if k < len then k else len))) = h2) := by
  refine Con.of X (by decide +kernel) [some (.ref a), some (.int (nI k))] rfl (Nat.le_of_ble_eq_true rfl) (fun p e s m below meth c X hnm hret => ?_)
  refine aw_ald0 X dJ7_copyOf_1904c_0 rfl ?_
  refine aw_ild1 X dJ7_copyOf_1904c_1 rfl ?_
  refine aw_ald0 X dJ7_copyOf_1904c_2 rfl ?_
  refine aw_getC X dJ7_copyOf_1904c_3 rfl ⟨ml_J7_86, gc_ok⟩ X.1.2.2.2.2.2.2.2.2.1 ha (Nat.le_of_ble_eq_true rfl) (Nat.le_of_ble_eq_true rfl) ?_
  refine AW.mono (bc2 := 0 + 1) (bs2 := 0 + k) (by omega) (by omega) ?_
  refine aw_callS X dJ7_copyOf_1904c_6 rfl (k_J7_copyOf_6403c X.1 htg ha hl hk hel) cmJ7_copyOf_6403c ml_J7_300 rfl rfl (Nat.le_of_ble_eq_true rfl) ⟨Nat.le_of_ble_eq_true rfl, Nat.le_of_ble_eq_true rfl⟩ (fun r h2 hq hf => ?_)
  obtain ⟨q, hq1, rfl, rfl⟩ := hq
  exact aw_aret X hret (Or.inr ⟨_, rfl⟩) dJ7_copyOf_1904c_9 (⟨q, hq1, rfl, rfl⟩)

set_option maxHeartbeats 4000000 in
set_option maxRecDepth 100000 in
theorem k_J8_newLength_cabcc {l : Launch} {s0 : State} {a0 : Array Value} {G : GG} (X : CX l s0 a0 G) {h : AH} {tg : Nat} {a b c : Int32} (ha : a = 10) (hb : b = 1) (hc : c = 5) : Con l s0 G yJ8_newLength_cabcc cJ8_newLength_cabcc 4 (some .int) 1 0 0 tg [.int a, .int b, .int c] h (RS (.int 15) h) := by
  refine Con.of X (by decide +kernel) [some (.int a), some (.int b), some (.int c), none] rfl (Nat.le_of_ble_eq_true rfl) (fun p e s m below meth c X hnm hret => ?_)
  subst ha hb hc
  refine aw_ild0 X dJ8_newLength_cabcc_0 rfl ?_
  refine aw_ild1 X dJ8_newLength_cabcc_1 rfl ?_
  refine aw_ild2 X dJ8_newLength_cabcc_2 rfl ?_
  refine aw_mmax X dJ8_newLength_cabcc_3 rfl ⟨ml_J8_194, mm_max⟩ (Nat.le_of_ble_eq_true rfl) (Nat.le_of_ble_eq_true rfl) ?_
  refine aw_iadd X dJ8_newLength_cabcc_6 rfl ?_
  refine aw_ist3 X dJ8_newLength_cabcc_7 rfl (by decide) rfl ?_
  refine aw_iconst X (0) dJ8_newLength_cabcc_8 (by decide) rfl ?_
  refine aw_ild3 X dJ8_newLength_cabcc_9 rfl ?_
  refine aw_icmp_ge (n2 := 21) X dJ8_newLength_cabcc_10 rfl rfl (fun c10 => absurd c10 (by decide)) (fun c10 => ?_)
  refine aw_ild3 X dJ8_newLength_cabcc_13 rfl ?_
  refine aw_ldc X (2147483639) dJ8_newLength_cabcc_14 rfl co_J8_200 ?_
  refine aw_icmp_gt (n2 := 21) X dJ8_newLength_cabcc_16 rfl rfl (fun c16 => absurd c16 (by decide)) (fun c16 => ?_)
  refine aw_ild3 X dJ8_newLength_cabcc_19 rfl ?_
  exact aw_iret X hret rfl dJ8_newLength_cabcc_20 (⟨rfl, rfl⟩)

set_option maxHeartbeats 4000000 in
set_option maxRecDepth 100000 in
theorem k_growF {l : Launch} {s0 : State} {a0 : Array Value} {G : GG} (X : CX l s0 a0 G) {h : AH} {tg t0 L : Nat} {md n0 : Int32} (htg : tg ≠ 0) (hL : h L = some (tg, oLst md (G.2.2 0) n0)) (h0 : h (G.2.2 0) = some (t0, oArr 0 (fun _ => none))) {i : Int32} (hi : i = 1) : Con l s0 G yJx4a65c_grow_92f84 cJx4a65c_grow_92f84 4 (some (.array (.object "java/lang/Object"))) 4 1 10 tg [.ref L, .int i] h (fun r h2 => ∃ q, h q = none ∧ some (.ref q) = r ∧ hu (hu h q (tg, oArr 10 (fun _ => none))) L (tg, oLst md q n0) = h2) := by
  refine Con.of X (by decide +kernel) [some (.ref L), some (.int i), none, none] rfl (Nat.le_of_ble_eq_true rfl) (fun p e s m below meth c X hnm hret => ?_)
  subst hi
  refine aw_ald0 X dJx4a65c_grow_92f84_0 rfl ?_
  refine aw_get X fd_Jx4a65c_9 dJx4a65c_grow_92f84_1 rfl hL rfl ?_
  refine aw_alen X dJx4a65c_grow_92f84_4 rfl h0 (by decide) ?_
  refine aw_ist2 X dJx4a65c_grow_92f84_5 rfl (by decide) rfl ?_
  refine aw_ild2 X dJx4a65c_grow_92f84_6 rfl ?_
  refine aw_if_gt (n2 := 20) X dJx4a65c_grow_92f84_7 rfl rfl (fun c7 => absurd c7 (show ¬ (0 : Int32) < nI 0 by decide)) (fun c7 => ?_)
  refine aw_ald0 X dJx4a65c_grow_92f84_10 rfl ?_
  refine aw_get X fd_Jx4a65c_9 dJx4a65c_grow_92f84_11 rfl hL rfl ?_
  refine aw_gets0 X dJx4a65c_grow_92f84_14 rfl fs_Jx4a65c_39 ?_
  refine aw_acmp_eq (n2 := 45) X dJx4a65c_grow_92f84_17 rfl rfl (fun c17 => ?_) (fun c17 => absurd (rfl : G.2.2 0 = G.2.2 0) c17)
  refine aw_ald0 X dJx4a65c_grow_92f84_45 rfl ?_
  refine aw_bipush X (10) dJx4a65c_grow_92f84_46 (by decide) rfl ?_
  refine aw_ild1 X dJx4a65c_grow_92f84_48 rfl ?_
  refine aw_mmax X dJx4a65c_grow_92f84_49 rfl ⟨ml_Jx4a65c_79, mm_max⟩ (Nat.le_of_ble_eq_true rfl) (Nat.le_of_ble_eq_true rfl) ?_
  refine aw_newq X dJx4a65c_grow_92f84_52 rfl cc_Jx4a65c_7 (show (if (10 : Int32) < 1 then 1 else 10) = nI 10 by decide) (by decide) (fun q52 hq52 => ?_)
  refine aw_dup_x1 X dJx4a65c_grow_92f84_55 rfl rfl rfl ?_
  refine aw_put X fd_Jx4a65c_9 fw_Jx4a65c_1 dJx4a65c_grow_92f84_56 rfl htg (hu_k hq52 hL) rfl rfl (Nat.le_of_ble_eq_true rfl) ?_
  exact aw_aret X hret (Or.inr ⟨_, rfl⟩) dJx4a65c_grow_92f84_59 (⟨q52, hq52, rfl, rfl⟩)

set_option maxHeartbeats 4000000 in
set_option maxRecDepth 100000 in
theorem k_growT {l : Launch} {s0 : State} {a0 : Array Value} {G : GG} (X : CX l s0 a0 G) {h : AH} {tg L ed : Nat} {md n0 : Int32} {g : Nat → Option Nat} (htg : tg ≠ 0) (hL : h L = some (tg, oLst md ed n0)) (hE : h ed = some (tg, oArr 10 g)) (hel : ∀ j, j < 10 → ∀ y, g j = some y → ∃ ty x, h y = some (ty, x) ∧ OB x) {i : Int32} (hi : i = 11) : Con l s0 G yJx4a65c_grow_92f84 cJx4a65c_grow_92f84 4 (some (.array (.object "java/lang/Object"))) 4 1 15 tg [.ref L, .int i] h (fun r h2 => ∃ q, h q = none ∧ some (.ref q) = r ∧ hu (hu h q (tg, oArr 15 (va_cpy g (fun _ => none) 0 0 10))) L (tg, oLst md q n0) = h2) := by
  refine Con.of X (by decide +kernel) [some (.ref L), some (.int i), none, none] rfl (Nat.le_of_ble_eq_true rfl) (fun p e s m below meth c X hnm hret => ?_)
  subst hi
  refine aw_ald0 X dJx4a65c_grow_92f84_0 rfl ?_
  refine aw_get X fd_Jx4a65c_9 dJx4a65c_grow_92f84_1 rfl hL rfl ?_
  refine aw_alen X dJx4a65c_grow_92f84_4 rfl hE (by decide) ?_
  refine aw_ist2 X dJx4a65c_grow_92f84_5 rfl (by decide) rfl ?_
  refine aw_ild2 X dJx4a65c_grow_92f84_6 rfl ?_
  refine aw_if_gt (n2 := 20) X dJx4a65c_grow_92f84_7 rfl rfl (fun c7 => ?_) (fun c7 => absurd (show (0 : Int32) < nI 10 by decide) c7)
  refine aw_ild2 X dJx4a65c_grow_92f84_20 rfl ?_
  refine aw_ild1 X dJx4a65c_grow_92f84_21 rfl ?_
  refine aw_ild2 X dJx4a65c_grow_92f84_22 rfl ?_
  refine aw_isub X dJx4a65c_grow_92f84_23 rfl ?_
  refine aw_ild2 X dJx4a65c_grow_92f84_24 rfl ?_
  refine aw_iconst X (1) dJx4a65c_grow_92f84_25 (by decide) rfl ?_
  refine aw_ishr X dJx4a65c_grow_92f84_26 rfl ?_
  refine aw_callS X dJx4a65c_grow_92f84_27 rfl (k_J8_newLength_cabcc X.1 (show nI 10 = 10 by decide) (show (11 : Int32) - nI 10 = 1 by decide) (show nI 10 >>> ((1 : Int32) &&& 31) = 5 by decide)) cmJ8_newLength_cabcc ml_Jx4a65c_73 rfl rfl (Nat.le_of_ble_eq_true rfl) ⟨Nat.le_of_ble_eq_true rfl, Nat.le_of_ble_eq_true rfl⟩ (aw_rs ?_)
  refine aw_ist3 X dJx4a65c_grow_92f84_30 rfl (by decide) rfl ?_
  refine aw_ald0 X dJx4a65c_grow_92f84_31 rfl ?_
  refine aw_ald0 X dJx4a65c_grow_92f84_32 rfl ?_
  refine aw_get X fd_Jx4a65c_9 dJx4a65c_grow_92f84_33 rfl hL rfl ?_
  refine aw_ild3 X dJx4a65c_grow_92f84_36 rfl ?_
  refine aw_callS X dJx4a65c_grow_92f84_37 rfl (k_J7_copyOf_1904c X.1 (k := 15) htg hE (by decide) (by decide) hel) cmJ7_copyOf_1904c ml_Jx4a65c_66 rfl rfl (Nat.le_of_ble_eq_true rfl) ⟨Nat.le_of_ble_eq_true rfl, Nat.le_of_ble_eq_true rfl⟩ (fun r h2 hq hf => ?_)
  obtain ⟨q, hq1, rfl, rfl⟩ := hq
  refine aw_dup_x1 X dJx4a65c_grow_92f84_40 rfl rfl rfl ?_
  refine aw_put X fd_Jx4a65c_9 fw_Jx4a65c_1 dJx4a65c_grow_92f84_41 rfl htg (hu_k hq1 hL) rfl rfl (Nat.le_of_ble_eq_true rfl) ?_
  exact aw_aret X hret (Or.inr ⟨_, rfl⟩) dJx4a65c_grow_92f84_44 (⟨q, hq1, rfl, rfl⟩)

set_option maxHeartbeats 4000000 in
set_option maxRecDepth 100000 in
theorem k_grow0F {l : Launch} {s0 : State} {a0 : Array Value} {G : GG} (X : CX l s0 a0 G) {h : AH} {tg t0 L : Nat} {md : Int32} (htg : tg ≠ 0) (hL : h L = some (tg, oLst md (G.2.2 0) 0)) (h0 : h (G.2.2 0) = some (t0, oArr 0 (fun _ => none))) : Con l s0 G yJx4a65c_grow_d5877 cJx4a65c_grow_d5877 1 (some (.array (.object "java/lang/Object"))) 5 1 10 tg [.ref L] h (fun r h2 => ∃ q, h q = none ∧ some (.ref q) = r ∧ hu (hu h q (tg, oArr 10 (fun _ => none))) L (tg, oLst md q 0) = h2) := by
  refine Con.of X (by decide +kernel) [some (.ref L)] rfl (Nat.le_of_ble_eq_true rfl) (fun p e s m below meth c X hnm hret => ?_)
  refine aw_ald0 X dJx4a65c_grow_d5877_0 rfl ?_
  refine aw_ald0 X dJx4a65c_grow_d5877_1 rfl ?_
  refine aw_get X fd_Jx4a65c_48 dJx4a65c_grow_d5877_2 rfl hL rfl ?_
  refine aw_iconst X (1) dJx4a65c_grow_d5877_5 (by decide) rfl ?_
  refine aw_iadd X dJx4a65c_grow_d5877_6 rfl ?_
  refine aw_callV X dJx4a65c_grow_d5877_7 rfl (k_growF X.1 htg hL h0 (show (0 : Int32) + 1 = 1 by decide)) cmJx4a65c_grow_92f84 ml_Jx4a65c_69 rfl hL rfl rfl (Nat.le_of_ble_eq_true rfl) ⟨Nat.le_of_ble_eq_true rfl, Nat.le_of_ble_eq_true rfl⟩ (fun r h2 hq hf => ?_)
  obtain ⟨q, hq1, rfl, rfl⟩ := hq
  exact aw_aret X hret (Or.inr ⟨_, rfl⟩) dJx4a65c_grow_d5877_10 (⟨q, hq1, rfl, rfl⟩)

set_option maxHeartbeats 4000000 in
set_option maxRecDepth 100000 in
theorem k_grow0T {l : Launch} {s0 : State} {a0 : Array Value} {G : GG} (X : CX l s0 a0 G) {h : AH} {tg L ed : Nat} {md : Int32} {g : Nat → Option Nat} (htg : tg ≠ 0) (hL : h L = some (tg, oLst md ed 10)) (hE : h ed = some (tg, oArr 10 g)) (hel : ∀ j, j < 10 → ∀ y, g j = some y → ∃ ty x, h y = some (ty, x) ∧ OB x) : Con l s0 G yJx4a65c_grow_d5877 cJx4a65c_grow_d5877 1 (some (.array (.object "java/lang/Object"))) 5 1 15 tg [.ref L] h (fun r h2 => ∃ q, h q = none ∧ some (.ref q) = r ∧ hu (hu h q (tg, oArr 15 (va_cpy g (fun _ => none) 0 0 10))) L (tg, oLst md q 10) = h2) := by
  refine Con.of X (by decide +kernel) [some (.ref L)] rfl (Nat.le_of_ble_eq_true rfl) (fun p e s m below meth c X hnm hret => ?_)
  refine aw_ald0 X dJx4a65c_grow_d5877_0 rfl ?_
  refine aw_ald0 X dJx4a65c_grow_d5877_1 rfl ?_
  refine aw_get X fd_Jx4a65c_48 dJx4a65c_grow_d5877_2 rfl hL rfl ?_
  refine aw_iconst X (1) dJx4a65c_grow_d5877_5 (by decide) rfl ?_
  refine aw_iadd X dJx4a65c_grow_d5877_6 rfl ?_
  refine aw_callV X dJx4a65c_grow_d5877_7 rfl (k_growT X.1 htg hL hE hel (show (10 : Int32) + 1 = 11 by decide)) cmJx4a65c_grow_92f84 ml_Jx4a65c_69 rfl hL rfl rfl (Nat.le_of_ble_eq_true rfl) ⟨Nat.le_of_ble_eq_true rfl, Nat.le_of_ble_eq_true rfl⟩ (fun r h2 hq hf => ?_)
  obtain ⟨q, hq1, rfl, rfl⟩ := hq
  exact aw_aret X hret (Or.inr ⟨_, rfl⟩) dJx4a65c_grow_d5877_10 (⟨q, hq1, rfl, rfl⟩)

set_option maxHeartbeats 4000000 in
set_option maxRecDepth 100000 in
theorem k_addR {l : Launch} {s0 : State} {a0 : Array Value} {G : GG} (X : CX l s0 a0 G) {h : AH} {tg tv L ed v cap n : Nat} {md : Int32} {g : Nat → Option Nat} {xv : AE} (htg : tg ≠ 0) (hL : h L = some (tg, oLst md ed (nI n))) (hE : h ed = some (tg, oArr cap g)) (hn : n < cap) (hc : cap < 2 ^ 31) (hLE : L ≠ ed) (hv : h v = some (tv, xv)) (ho : OB xv) : Con l s0 G yJx4a65c_add_72be8 cJx4a65c_add_72be8 4 none 6 1 15 tg [.ref L, .ref v, .ref ed, .int (nI n)] h (RV (hu (hu h ed (tg, oArr cap (va_up g n (some v)))) L (tg, oLst md ed (nI (n + 1))))) := by
  refine Con.of X (by decide +kernel) [some (.ref L), some (.ref v), some (.ref ed), some (.int (nI n))] rfl (Nat.le_of_ble_eq_true rfl) (fun p e s m below meth c X hnm hret => ?_)
  refine aw_ild3 X dJx4a65c_add_72be8_0 rfl ?_
  refine aw_ald2 X dJx4a65c_add_72be8_1 rfl ?_
  refine aw_alen X dJx4a65c_add_72be8_2 rfl hE (by decide) ?_
  refine aw_icmp_ne (n2 := 11) X dJx4a65c_add_72be8_3 rfl rfl (fun c3 => ?_) (fun c3 => absurd c3 (fun e => absurd ((nI_eq (by omega) hc).mp e) (by omega)))
  refine aw_ald2 X dJx4a65c_add_72be8_11 rfl ?_
  refine aw_ild3 X dJx4a65c_add_72be8_12 rfl ?_
  refine aw_ald1 X dJx4a65c_add_72be8_13 rfl ?_
  refine aw_aast X n dJx4a65c_add_72be8_14 rfl htg hE hv ho rfl hn hc ?_
  refine aw_ald0 X dJx4a65c_add_72be8_15 rfl ?_
  refine aw_ild3 X dJx4a65c_add_72be8_16 rfl ?_
  refine aw_iconst X (1) dJx4a65c_add_72be8_17 (by decide) rfl ?_
  refine aw_iadd X dJx4a65c_add_72be8_18 rfl ?_
  refine aw_put X fd_Jx4a65c_48 fw_Jx4a65c_2 dJx4a65c_add_72be8_19 rfl htg ((hu_n hLE).trans hL) rfl rfl (Nat.le_of_ble_eq_true rfl) ?_
  exact aw_vret X hret dJx4a65c_add_72be8_22 (⟨rfl, by rw [nI_1]; rfl⟩)

set_option maxHeartbeats 4000000 in
set_option maxRecDepth 100000 in
theorem k_addF {l : Launch} {s0 : State} {a0 : Array Value} {G : GG} (X : CX l s0 a0 G) {h : AH} {tg tv t0 L v : Nat} {md : Int32} {xv : AE} (htg : tg ≠ 0) (hL : h L = some (tg, oLst md (G.2.2 0) 0)) (h0 : h (G.2.2 0) = some (t0, oArr 0 (fun _ => none))) (hv : h v = some (tv, xv)) (ho : OB xv) (hvL : v ≠ L) : Con l s0 G yJx4a65c_add_72be8 cJx4a65c_add_72be8 4 none 6 1 15 tg [.ref L, .ref v, .ref (G.2.2 0), .int 0] h (fun r h2 => none = r ∧ ∃ q, h q = none ∧ hu (hu h q (tg, oArr 10 (va_up (fun _ => none) 0 (some v)))) L (tg, oLst md q 1) = h2) := by
  refine Con.of X (by decide +kernel) [some (.ref L), some (.ref v), some (.ref (G.2.2 0)), some (.int 0)] rfl (Nat.le_of_ble_eq_true rfl) (fun p e s m below meth c X hnm hret => ?_)
  refine aw_ild3 X dJx4a65c_add_72be8_0 rfl ?_
  refine aw_ald2 X dJx4a65c_add_72be8_1 rfl ?_
  refine aw_alen X dJx4a65c_add_72be8_2 rfl h0 (by decide) ?_
  refine aw_icmp_ne (n2 := 11) X dJx4a65c_add_72be8_3 rfl rfl (fun c3 => absurd (show (0 : Int32) = nI 0 by decide) c3) (fun c3 => ?_)
  refine aw_ald0 X dJx4a65c_add_72be8_6 rfl ?_
  refine aw_callV X dJx4a65c_add_72be8_7 rfl (k_grow0F X.1 htg hL h0) cmJx4a65c_grow_d5877 ml_Jx4a65c_129 rfl hL rfl rfl (Nat.le_of_ble_eq_true rfl) ⟨Nat.le_of_ble_eq_true rfl, Nat.le_of_ble_eq_true rfl⟩ (fun r h2 hq hf => ?_)
  obtain ⟨q, hq1, rfl, rfl⟩ := hq
  have hqL : q ≠ L := fun e => by rw [e, hL] at hq1; cases hq1
  refine aw_ast2 X dJx4a65c_add_72be8_10 rfl (by decide) rfl ?_
  refine aw_ald2 X dJx4a65c_add_72be8_11 rfl ?_
  refine aw_ild3 X dJx4a65c_add_72be8_12 rfl ?_
  refine aw_ald1 X dJx4a65c_add_72be8_13 rfl ?_
  refine aw_aast X 0 dJx4a65c_add_72be8_14 rfl htg ((hu_n hqL).trans hu_s) ((hu_n hvL).trans (hu_k hq1 hv)) ho (show (0 : Int32) = nI 0 by decide) (by decide) (by decide) ?_
  refine aw_ald0 X dJx4a65c_add_72be8_15 rfl ?_
  refine aw_ild3 X dJx4a65c_add_72be8_16 rfl ?_
  refine aw_iconst X (1) dJx4a65c_add_72be8_17 (by decide) rfl ?_
  refine aw_iadd X dJx4a65c_add_72be8_18 rfl ?_
  refine aw_put X fd_Jx4a65c_48 fw_Jx4a65c_2 dJx4a65c_add_72be8_19 rfl htg ((hu_n (Ne.symm hqL)).trans hu_s) rfl rfl (Nat.le_of_ble_eq_true rfl) ?_
  exact aw_vret X hret dJx4a65c_add_72be8_22 (⟨rfl, q, hq1, by rw [hu_comm (Ne.symm hqL), hu_hu, hu_hu]; rfl⟩)

set_option maxHeartbeats 4000000 in
set_option maxRecDepth 100000 in
theorem k_addT {l : Launch} {s0 : State} {a0 : Array Value} {G : GG} (X : CX l s0 a0 G) {h : AH} {tg tv L ed v : Nat} {md : Int32} {xv : AE} {g : Nat → Option Nat} (htg : tg ≠ 0) (hL : h L = some (tg, oLst md ed 10)) (hE : h ed = some (tg, oArr 10 g)) (hel : ∀ j, j < 10 → ∀ y, g j = some y → ∃ ty x, h y = some (ty, x) ∧ OB x) (hv : h v = some (tv, xv)) (ho : OB xv) (hvL : v ≠ L) : Con l s0 G yJx4a65c_add_72be8 cJx4a65c_add_72be8 4 none 6 1 15 tg [.ref L, .ref v, .ref ed, .int 10] h (fun r h2 => none = r ∧ ∃ q, h q = none ∧ hu (hu h q (tg, oArr 15 (va_up (va_cpy g (fun _ => none) 0 0 10) 10 (some v)))) L (tg, oLst md q 11) = h2) := by
  refine Con.of X (by decide +kernel) [some (.ref L), some (.ref v), some (.ref ed), some (.int 10)] rfl (Nat.le_of_ble_eq_true rfl) (fun p e s m below meth c X hnm hret => ?_)
  refine aw_ild3 X dJx4a65c_add_72be8_0 rfl ?_
  refine aw_ald2 X dJx4a65c_add_72be8_1 rfl ?_
  refine aw_alen X dJx4a65c_add_72be8_2 rfl hE (by decide) ?_
  refine aw_icmp_ne (n2 := 11) X dJx4a65c_add_72be8_3 rfl rfl (fun c3 => absurd (show (10 : Int32) = nI 10 by decide) c3) (fun c3 => ?_)
  refine aw_ald0 X dJx4a65c_add_72be8_6 rfl ?_
  refine aw_callV X dJx4a65c_add_72be8_7 rfl (k_grow0T X.1 htg hL hE hel) cmJx4a65c_grow_d5877 ml_Jx4a65c_129 rfl hL rfl rfl (Nat.le_of_ble_eq_true rfl) ⟨Nat.le_of_ble_eq_true rfl, Nat.le_of_ble_eq_true rfl⟩ (fun r h2 hq hf => ?_)
  obtain ⟨q, hq1, rfl, rfl⟩ := hq
  have hqL : q ≠ L := fun e => by rw [e, hL] at hq1; cases hq1
  refine aw_ast2 X dJx4a65c_add_72be8_10 rfl (by decide) rfl ?_
  refine aw_ald2 X dJx4a65c_add_72be8_11 rfl ?_
  refine aw_ild3 X dJx4a65c_add_72be8_12 rfl ?_
  refine aw_ald1 X dJx4a65c_add_72be8_13 rfl ?_
  refine aw_aast X 10 dJx4a65c_add_72be8_14 rfl htg ((hu_n hqL).trans hu_s) ((hu_n hvL).trans (hu_k hq1 hv)) ho (show (10 : Int32) = nI 10 by decide) (by decide) (by decide) ?_
  refine aw_ald0 X dJx4a65c_add_72be8_15 rfl ?_
  refine aw_ild3 X dJx4a65c_add_72be8_16 rfl ?_
  refine aw_iconst X (1) dJx4a65c_add_72be8_17 (by decide) rfl ?_
  refine aw_iadd X dJx4a65c_add_72be8_18 rfl ?_
  refine aw_put X fd_Jx4a65c_48 fw_Jx4a65c_2 dJx4a65c_add_72be8_19 rfl htg ((hu_n (Ne.symm hqL)).trans hu_s) rfl rfl (Nat.le_of_ble_eq_true rfl) ?_
  exact aw_vret X hret dJx4a65c_add_72be8_22 (⟨rfl, q, hq1, by rw [hu_comm (Ne.symm hqL), hu_hu, hu_hu]; rfl⟩)

/-- the list L of n elements g: its array ed (the empty one at first); of ten or fifteen places -/
def LI (G : GG) (h : AH) (tg L n : Nat) (g : Nat → Option Nat) (ed cap : Nat) (md : Int32) : Prop :=
  h L = some (tg, oLst md ed (nI n)) ∧ L ≠ ed ∧ n ≤ cap ∧ ((cap = 0 ∧ ed = G.2.2 0 ∧ (∀ j, g j = none) ∧ ∃ t0, h ed = some (t0, oArr 0 g)) ∨ ((cap = 10 ∨ cap = 15) ∧ h ed = some (tg, oArr cap g)))
theorem LI.arr {G : GG} {h : AH} {tg L n ed cap : Nat} {g : Nat → Option Nat} {md : Int32} (w : LI G h tg L n g ed cap md) : ∃ t, h ed = some (t, oArr cap g) := by
  rcases w.2.2.2 with ⟨e, -, -, t0, h0⟩ | ⟨-, h0⟩
  · exact ⟨t0, by rw [e]; exact h0⟩
  · exact ⟨tg, h0⟩
theorem LI.cap {G : GG} {h : AH} {tg L n ed cap : Nat} {g : Nat → Option Nat} {md : Int32} (w : LI G h tg L n g ed cap md) : cap ≤ 15 := by
  rcases w.2.2.2 with ⟨e, -⟩ | ⟨e | e, -⟩ <;> omega
theorem k_size {l : Launch} {s0 : State} {a0 : Array Value} {G : GG} (X : CX l s0 a0 G) {h : AH} {tg tL L n ed cap : Nat} {g : Nat → Option Nat} {md : Int32} (w : LI G h tL L n g ed cap md) : Con l s0 G yJx4a65c_size_8abf5 cJx4a65c_size_8abf5 1 (some .int) 0 0 0 tg [.ref L] h (RS (.int (nI n)) h) := k_Jx4a65c_size_8abf5 X w.1
theorem k_lget {l : Launch} {s0 : State} {a0 : Array Value} {G : GG} (X : CX l s0 a0 G) {h : AH} {tg tL L n ed cap k y : Nat} {g : Nat → Option Nat} {md i : Int32} (w : LI G h tL L n g ed cap md) (hi : i = nI k) (hk : k < n) (hy : g k = some y) : Con l s0 G yJx4a65c_get_915e3 cJx4a65c_get_915e3 2 (some (.object "java/lang/Object")) 2 0 0 tg [.ref L, .int i] h (RS (.ref y) h) := by
  subst hi
  obtain ⟨t, hE⟩ := w.arr
  have hc := w.cap
  exact k_Jx4a65c_get_915e3 X w.1 hE hk w.2.2.1 (by omega) hy

theorem ob_lst {md : Int32} {ed : Nat} {n : Int32} : OB (oLst md ed n) := ob_Jx4a65c
theorem ob_arr {cap : Nat} {g : Nat → Option Nat} : OB (oArr cap g) := show 3 < 4 by decide
theorem ob_row {n : Nat} {f : Nat → Int32} : OB (oRow n f) := show 0 < 4 by decide
theorem ex_put {h : AH} {L y tg : Nat} {md md2 n n2 : Int32} {ed ed2 : Nat} (e : ∃ ty x, h y = some (ty, x) ∧ OB x) (_ : h L = some (tg, oLst md ed n)) : ∃ ty x, hu h L (tg, oLst md2 ed2 n2) y = some (ty, x) ∧ OB x := by
  obtain ⟨ty, x, e1, e2⟩ := e
  by_cases q : y = L
  · subst q
    exact ⟨_, _, hu_s, ob_lst⟩
  · exact ⟨ty, x, (hu_n q).trans e1, e2⟩

set_option maxHeartbeats 4000000 in
set_option maxRecDepth 100000 in
theorem k_add1R {l : Launch} {s0 : State} {a0 : Array Value} {G : GG} (X : CX l s0 a0 G) {h : AH} {tg tv L ed v cap n : Nat} {md : Int32} {g : Nat → Option Nat} {xv : AE} (htg : tg ≠ 0) (hL : h L = some (tg, oLst md ed (nI n))) (hE : h ed = some (tg, oArr cap g)) (hn : n < cap) (hc : cap < 2 ^ 31) (hLE : L ≠ ed) (hv : h v = some (tv, xv)) (ho : OB xv) (hvL : v ≠ L) : Con l s0 G yJx4a65c_add_9ea2d cJx4a65c_add_9ea2d 2 (some .boolean) 7 1 15 tg [.ref L, .ref v] h (RS (.int 1) (hu (hu h ed (tg, oArr cap (va_up g n (some v)))) L (tg, oLst (md + 1) ed (nI (n + 1))))) := by
  refine Con.of X (by decide +kernel) [some (.ref L), some (.ref v)] rfl (Nat.le_of_ble_eq_true rfl) (fun p e s m below meth c X hnm hret => ?_)
  refine aw_ald0 X dJx4a65c_add_9ea2d_0 rfl ?_
  refine aw_dup X dJx4a65c_add_9ea2d_1 rfl rfl ?_
  refine aw_get X fd_Jx4a65c_63 dJx4a65c_add_9ea2d_2 rfl hL rfl ?_
  refine aw_iconst X (1) dJx4a65c_add_9ea2d_5 (by decide) rfl ?_
  refine aw_iadd X dJx4a65c_add_9ea2d_6 rfl ?_
  refine aw_put X fd_Jx4a65c_63 fw_Jx4a65c_0 dJx4a65c_add_9ea2d_7 rfl htg hL rfl rfl (Nat.le_of_ble_eq_true rfl) ?_
  refine aw_ald0 X dJx4a65c_add_9ea2d_10 rfl ?_
  refine aw_ald1 X dJx4a65c_add_9ea2d_11 rfl ?_
  refine aw_ald0 X dJx4a65c_add_9ea2d_12 rfl ?_
  refine aw_get X fd_Jx4a65c_9 dJx4a65c_add_9ea2d_13 rfl hu_s rfl ?_
  refine aw_ald0 X dJx4a65c_add_9ea2d_16 rfl ?_
  refine aw_get X fd_Jx4a65c_48 dJx4a65c_add_9ea2d_17 rfl hu_s rfl ?_
  refine aw_callV X dJx4a65c_add_9ea2d_20 rfl (k_addR X.1 (md := md + 1) htg hu_s ((hu_n (Ne.symm hLE)).trans hE) hn hc hLE ((hu_n hvL).trans hv) ho) cmJx4a65c_add_72be8 ml_Jx4a65c_131 rfl hu_s rfl rfl (Nat.le_of_ble_eq_true rfl) ⟨Nat.le_of_ble_eq_true rfl, Nat.le_of_ble_eq_true rfl⟩ (aw_rv ?_)
  refine aw_iconst X (1) dJx4a65c_add_9ea2d_23 (by decide) rfl ?_
  exact aw_iret X hret rfl dJx4a65c_add_9ea2d_24 (⟨rfl, by rw [hu_comm hLE, hu_hu]⟩)

set_option maxHeartbeats 4000000 in
set_option maxRecDepth 100000 in
theorem k_add1F {l : Launch} {s0 : State} {a0 : Array Value} {G : GG} (X : CX l s0 a0 G) {h : AH} {tg tv t0 L v : Nat} {md : Int32} {xv : AE} (htg : tg ≠ 0) (hL : h L = some (tg, oLst md (G.2.2 0) 0)) (h0 : h (G.2.2 0) = some (t0, oArr 0 (fun _ => none))) (hLE : L ≠ G.2.2 0) (hv : h v = some (tv, xv)) (ho : OB xv) (hvL : v ≠ L) : Con l s0 G yJx4a65c_add_9ea2d cJx4a65c_add_9ea2d 2 (some .boolean) 7 1 15 tg [.ref L, .ref v] h (fun r h2 => some (.int 1) = r ∧ ∃ q, h q = none ∧ hu (hu h q (tg, oArr 10 (va_up (fun _ => none) 0 (some v)))) L (tg, oLst (md + 1) q 1) = h2) := by
  refine Con.of X (by decide +kernel) [some (.ref L), some (.ref v)] rfl (Nat.le_of_ble_eq_true rfl) (fun p e s m below meth c X hnm hret => ?_)
  refine aw_ald0 X dJx4a65c_add_9ea2d_0 rfl ?_
  refine aw_dup X dJx4a65c_add_9ea2d_1 rfl rfl ?_
  refine aw_get X fd_Jx4a65c_63 dJx4a65c_add_9ea2d_2 rfl hL rfl ?_
  refine aw_iconst X (1) dJx4a65c_add_9ea2d_5 (by decide) rfl ?_
  refine aw_iadd X dJx4a65c_add_9ea2d_6 rfl ?_
  refine aw_put X fd_Jx4a65c_63 fw_Jx4a65c_0 dJx4a65c_add_9ea2d_7 rfl htg hL rfl rfl (Nat.le_of_ble_eq_true rfl) ?_
  refine aw_ald0 X dJx4a65c_add_9ea2d_10 rfl ?_
  refine aw_ald1 X dJx4a65c_add_9ea2d_11 rfl ?_
  refine aw_ald0 X dJx4a65c_add_9ea2d_12 rfl ?_
  refine aw_get X fd_Jx4a65c_9 dJx4a65c_add_9ea2d_13 rfl hu_s rfl ?_
  refine aw_ald0 X dJx4a65c_add_9ea2d_16 rfl ?_
  refine aw_get X fd_Jx4a65c_48 dJx4a65c_add_9ea2d_17 rfl hu_s rfl ?_
  refine aw_callV X dJx4a65c_add_9ea2d_20 rfl (k_addF X.1 (md := md + 1) htg hu_s ((hu_n (Ne.symm hLE)).trans h0) ((hu_n hvL).trans hv) ho hvL) cmJx4a65c_add_72be8 ml_Jx4a65c_131 rfl hu_s rfl rfl (Nat.le_of_ble_eq_true rfl) ⟨Nat.le_of_ble_eq_true rfl, Nat.le_of_ble_eq_true rfl⟩ (fun r h2 hq hf => ?_)
  obtain ⟨rfl, q, hq1, rfl⟩ := hq
  have hqL : q ≠ L := fun e => by rw [e, hu_s] at hq1; cases hq1
  rw [hu_n hqL] at hq1
  refine aw_iconst X (1) dJx4a65c_add_9ea2d_23 (by decide) rfl ?_
  exact aw_iret X hret rfl dJx4a65c_add_9ea2d_24 (⟨rfl, q, hq1, by rw [hu_comm (Ne.symm hqL), hu_hu]⟩)

set_option maxHeartbeats 4000000 in
set_option maxRecDepth 100000 in
theorem k_add1T {l : Launch} {s0 : State} {a0 : Array Value} {G : GG} (X : CX l s0 a0 G) {h : AH} {tg tv L ed v : Nat} {md : Int32} {xv : AE} {g : Nat → Option Nat} (htg : tg ≠ 0) (hL : h L = some (tg, oLst md ed 10)) (hE : h ed = some (tg, oArr 10 g)) (hel : ∀ j, j < 10 → ∀ y, g j = some y → ∃ ty x, h y = some (ty, x) ∧ OB x) (hLE : L ≠ ed) (hv : h v = some (tv, xv)) (ho : OB xv) (hvL : v ≠ L) : Con l s0 G yJx4a65c_add_9ea2d cJx4a65c_add_9ea2d 2 (some .boolean) 7 1 15 tg [.ref L, .ref v] h (fun r h2 => some (.int 1) = r ∧ ∃ q, h q = none ∧ hu (hu h q (tg, oArr 15 (va_up (va_cpy g (fun _ => none) 0 0 10) 10 (some v)))) L (tg, oLst (md + 1) q 11) = h2) := by
  refine Con.of X (by decide +kernel) [some (.ref L), some (.ref v)] rfl (Nat.le_of_ble_eq_true rfl) (fun p e s m below meth c X hnm hret => ?_)
  refine aw_ald0 X dJx4a65c_add_9ea2d_0 rfl ?_
  refine aw_dup X dJx4a65c_add_9ea2d_1 rfl rfl ?_
  refine aw_get X fd_Jx4a65c_63 dJx4a65c_add_9ea2d_2 rfl hL rfl ?_
  refine aw_iconst X (1) dJx4a65c_add_9ea2d_5 (by decide) rfl ?_
  refine aw_iadd X dJx4a65c_add_9ea2d_6 rfl ?_
  refine aw_put X fd_Jx4a65c_63 fw_Jx4a65c_0 dJx4a65c_add_9ea2d_7 rfl htg hL rfl rfl (Nat.le_of_ble_eq_true rfl) ?_
  refine aw_ald0 X dJx4a65c_add_9ea2d_10 rfl ?_
  refine aw_ald1 X dJx4a65c_add_9ea2d_11 rfl ?_
  refine aw_ald0 X dJx4a65c_add_9ea2d_12 rfl ?_
  refine aw_get X fd_Jx4a65c_9 dJx4a65c_add_9ea2d_13 rfl hu_s rfl ?_
  refine aw_ald0 X dJx4a65c_add_9ea2d_16 rfl ?_
  refine aw_get X fd_Jx4a65c_48 dJx4a65c_add_9ea2d_17 rfl hu_s rfl ?_
  refine aw_callV X dJx4a65c_add_9ea2d_20 rfl (k_addT X.1 (md := md + 1) htg hu_s ((hu_n (Ne.symm hLE)).trans hE) (fun j hj y hy => ex_put (hel j hj y hy) hL) ((hu_n hvL).trans hv) ho hvL) cmJx4a65c_add_72be8 ml_Jx4a65c_131 rfl hu_s rfl rfl (Nat.le_of_ble_eq_true rfl) ⟨Nat.le_of_ble_eq_true rfl, Nat.le_of_ble_eq_true rfl⟩ (fun r h2 hq hf => ?_)
  obtain ⟨rfl, q, hq1, rfl⟩ := hq
  have hqL : q ≠ L := fun e => by rw [e, hu_s] at hq1; cases hq1
  rw [hu_n hqL] at hq1
  refine aw_iconst X (1) dJx4a65c_add_9ea2d_23 (by decide) rfl ?_
  exact aw_iret X hret rfl dJx4a65c_add_9ea2d_24 (⟨rfl, q, hq1, by rw [hu_comm (Ne.symm hqL), hu_hu]⟩)

/-- add(v) to a list of fewer than twelve -/
theorem k_ladd {l : Launch} {s0 : State} {a0 : Array Value} {G : GG} (X : CX l s0 a0 G) {h : AH} {tg L n ed cap v tv : Nat} {g : Nat → Option Nat} {md : Int32} {xv : AE} (htg : tg ≠ 0) (w : LI G h tg L n g ed cap md) (hn : n < 12) (hel : ∀ j, j < n → ∃ y ty x, g j = some y ∧ h y = some (ty, x) ∧ OB x) (hv : h v = some (tv, xv)) (ho : OB xv) (hvL : v ≠ L) :
    Con l s0 G yJx4a65c_add_9ea2d cJx4a65c_add_9ea2d 2 (some .boolean) 7 1 15 tg [.ref L, .ref v] h (fun r h2 => some (.int 1) = r ∧ ∃ (ed2 cap2 : Nat) (g2 : Nat → Option Nat) (md2 : Int32), LI G h2 tg L (n + 1) g2 ed2 cap2 md2 ∧ cap2 ≠ 0 ∧ (∀ j, j < n → g2 j = g j) ∧ g2 n = some v ∧ ((ed2 = ed ∧ cap ≠ 0) ∨ h ed2 = none) ∧ ∀ a c, h a = some c → a ≠ L → (a ≠ ed ∨ cap = 0) → h2 a = some c) := by
  obtain ⟨hL, hLE, hnc, hcase⟩ := w
  rcases hcase with ⟨hc, he, hg, t0, h0⟩ | ⟨hc, hE⟩
  · have hn0 : n = 0 := by omega
    subst hn0 hc he
    have hg0 : g = fun _ => none := funext hg
    rw [hg0] at h0
    refine Con.imp (k_add1F X htg hL h0 hLE hv ho hvL) ?_
    rintro r h2 ⟨rfl, q, hq, rfl⟩
    have hqL : q ≠ L := fun e => by rw [e, hL] at hq; cases hq
    refine ⟨rfl, q, 10, _, _, ⟨hu_s, Ne.symm hqL, by omega, Or.inr ⟨Or.inl rfl, (hu_n hqL).trans hu_s⟩⟩, by decide, fun j hj => absurd hj (Nat.not_lt_zero _), va_up_self _ _ _, Or.inr hq, fun a c ha n1 n2 => ?_⟩
    rw [hu_n n1]
    exact hu_k hq ha
  · by_cases hlt : n < cap
    · refine Con.imp (k_add1R X htg hL hE hlt (by rcases hc with e | e <;> omega) hLE hv ho hvL) ?_
      rintro r h2 ⟨rfl, rfl⟩
      refine ⟨rfl, ed, cap, _, _, ⟨hu_s, hLE, hlt, Or.inr ⟨hc, (hu_n (Ne.symm hLE)).trans hu_s⟩⟩, by omega, fun j hj => va_up_ne _ _ (Nat.ne_of_lt hj), va_up_self _ _ _, Or.inl ⟨rfl, by omega⟩, fun a c ha n1 n2 => ?_⟩
      rw [hu_n n1, hu_n (n2.resolve_right (by omega))]
      exact ha
    · have hc10 : cap = 10 := by rcases hc with e | e <;> omega
      have hn10 : n = 10 := by omega
      subst hc10 hn10
      refine Con.imp (k_add1T X htg hL hE (fun j hj y hy => by
        obtain ⟨y9, ty, x, e1, e2⟩ := hel j hj
        rw [hy] at e1
        cases e1
        exact ⟨ty, x, e2⟩) hLE hv ho hvL) ?_
      rintro r h2 ⟨rfl, q, hq, rfl⟩
      have hqL : q ≠ L := fun e => by rw [e, hL] at hq; cases hq
      refine ⟨rfl, q, 15, _, _, ⟨hu_s, Ne.symm hqL, by omega, Or.inr ⟨Or.inr rfl, (hu_n hqL).trans hu_s⟩⟩, by decide, fun j hj => ?_, va_up_self _ _ _, Or.inr hq, fun a c ha n1 n2 => ?_⟩
      · rw [va_up_ne _ _ (Nat.ne_of_lt hj)]
        show va_cpy g (fun _ => none) 0 0 10 j = g j
        rw [pk_cpy_in (Nat.zero_le _) (by omega)]
        congr 1
        omega
      · rw [hu_n n1]
        exact hu_k hq ha
