/-! LISTS THAT ARE READ, ITERATORS -/
def LR (h : AH) (tg L n : Nat) (g : Nat → Option Nat) (ed cap : Nat) (md : Int32) : Prop :=
  h L = some (tg, oLst md ed (nI n)) ∧ n ≤ cap ∧ cap ≤ 15 ∧ ∃ t, h ed = some (t, oArr cap g)
theorem LI.lr {G : GG} {h : AH} {tg L n ed cap : Nat} {g : Nat → Option Nat} {md : Int32} (w : LI G h tg L n g ed cap md) : LR h tg L n g ed cap md := ⟨w.1, w.2.2.1, w.cap, w.arr⟩
theorem k_rsize {l : Launch} {s0 : State} {a0 : Array Value} {G : GG} (X : CX l s0 a0 G) {h : AH} {tg tL L n ed cap : Nat} {g : Nat → Option Nat} {md : Int32} (w : LR h tL L n g ed cap md) : Con l s0 G yJx4a65c_size_8abf5 cJx4a65c_size_8abf5 1 (some .int) 0 0 0 tg [.ref L] h (RS (.int (nI n)) h) := k_Jx4a65c_size_8abf5 X w.1
theorem k_rget {l : Launch} {s0 : State} {a0 : Array Value} {G : GG} (X : CX l s0 a0 G) {h : AH} {tg tL L n ed cap k y : Nat} {g : Nat → Option Nat} {md i : Int32} (w : LR h tL L n g ed cap md) (hi : i = nI k) (hk : k < n) (hy : g k = some y) : Con l s0 G yJx4a65c_get_915e3 cJx4a65c_get_915e3 2 (some (.object "java/lang/Object")) 2 0 0 tg [.ref L, .int i] h (RS (.ref y) h) := by
  subst hi
  obtain ⟨h1, h2, h3, t, hE⟩ := w
  exact k_Jx4a65c_get_915e3 X h1 hE hk h2 (by omega) hy

set_option maxHeartbeats 4000000 in
set_option maxRecDepth 100000 in
theorem k_Jx35411_init_45d68 {l : Launch} {s0 : State} {a0 : Array Value} {G : GG} (X : CX l s0 a0 G) {h : AH} {a tL tg L ed : Nat} {md n : Int32} (htg : tg ≠ 0) (ha : h a = some (tg, .inr (0, [.int 0, .int 0, .int 0, .null]))) (hL : h L = some (tL, oLst md ed n)) (haL : a ≠ L)  : Con l s0 G yJx35411_init_45d68 cJx35411_init_45d68 2 none 1 0 0 tg [.ref a, .ref L] h (RV (hu h a (tg, oItr 0 (-1) md L))) := by
  refine Con.of X (by decide +kernel) [some (.ref a), some (.ref L)] rfl (Nat.le_of_ble_eq_true rfl) (fun p e s m below meth c X hnm hret => ?_)
  refine aw_ald0 X dJx35411_init_45d68_0 rfl ?_
  refine aw_ald1 X dJx35411_init_45d68_1 rfl ?_
  refine aw_putF X fd_Jx35411_1 fi_Jx35411_3 hnm dJx35411_init_45d68_2 rfl htg ha rfl rfl (Nat.le_of_ble_eq_true rfl) ?_
  refine aw_ald0 X dJx35411_init_45d68_5 rfl ?_
  refine aw_objInit X dJx35411_init_45d68_6 rfl ⟨ml_Jx35411_7, oi_ok⟩ (Nat.le_of_ble_eq_true rfl) (Nat.le_of_ble_eq_true rfl) ?_
  refine aw_ald0 X dJx35411_init_45d68_9 rfl ?_
  refine aw_iconst X (-1) dJx35411_init_45d68_10 (by decide) rfl ?_
  refine aw_put X fd_Jx35411_13 fw_Jx35411_1 dJx35411_init_45d68_11 rfl htg hu_s rfl rfl (Nat.le_of_ble_eq_true rfl) ?_
  refine aw_ald0 X dJx35411_init_45d68_14 rfl ?_
  refine aw_ald0 X dJx35411_init_45d68_15 rfl ?_
  refine aw_get X fd_Jx35411_1 dJx35411_init_45d68_16 rfl hu_s rfl ?_
  refine aw_get X fd_Jx35411_17 dJx35411_init_45d68_19 rfl ((hu_n haL.symm).trans ((hu_n haL.symm).trans hL)) rfl ?_
  refine aw_put X fd_Jx35411_22 fw_Jx35411_2 dJx35411_init_45d68_22 rfl htg hu_s rfl rfl (Nat.le_of_ble_eq_true rfl) ?_
  exact aw_vret X hret dJx35411_init_45d68_25 (⟨rfl, by simp only [hu_hu]; rfl⟩)

set_option maxHeartbeats 4000000 in
set_option maxRecDepth 100000 in
theorem k_Jx4a65c_iterator_32c93 {l : Launch} {s0 : State} {a0 : Array Value} {G : GG} (X : CX l s0 a0 G) {h : AH} {tL tg L ed : Nat} {md n : Int32} (htg : tg ≠ 0) (hL : h L = some (tL, oLst md ed n))  : Con l s0 G yJx4a65c_iterator_32c93 cJx4a65c_iterator_32c93 1 (some (.object "java/util/Iterator")) 2 1 4 tg [.ref L] h (fun r h2 => ∃ q, h q = none ∧ some (.ref q) = r ∧ hu h q (tg, oItr 0 (-1) md L) = h2) := by
  refine Con.of X (by decide +kernel) [some (.ref L)] rfl (Nat.le_of_ble_eq_true rfl) (fun p e s m below meth c X hnm hret => ?_)
  refine aw_new X nw_Jx4a65c_267 dJx4a65c_iterator_32c93_0 rfl (fun q0 hq0 => ?_)
  refine aw_dup X dJx4a65c_iterator_32c93_3 rfl rfl ?_
  refine aw_ald0 X dJx4a65c_iterator_32c93_4 rfl ?_
  refine aw_callI X dJx4a65c_iterator_32c93_5 rfl (k_Jx35411_init_45d68 X.1 htg hu_s (hu_k hq0 hL) (fun e => by rw [e, hL] at hq0; cases hq0)) cmJx35411_init_45d68 ml_Jx4a65c_269 rfl rfl (Nat.le_of_ble_eq_true rfl) ⟨Nat.le_of_ble_eq_true rfl, Nat.le_of_ble_eq_true rfl⟩ (aw_rv ?_)
  exact aw_aret X hret (Or.inl ⟨_, rfl⟩) dJx4a65c_iterator_32c93_8 (⟨q0, hq0, rfl, hu_hu.symm⟩)

set_option maxHeartbeats 4000000 in
set_option maxRecDepth 100000 in
theorem k_Jx35411_hasNext_aae02 {l : Launch} {s0 : State} {a0 : Array Value} {G : GG} (X : CX l s0 a0 G) {h : AH} {a t tL tg L n ed cap : Nat} {g : Nat → Option Nat} {cur last md : Int32} (ha : h a = some (t, oItr cur last md L)) (hw : LR h tL L n g ed cap md) {k : Nat} (hc : cur = nI k) (hk : k ≤ n)  : Con l s0 G yJx35411_hasNext_aae02 cJx35411_hasNext_aae02 1 (some .boolean) 0 0 0 tg [.ref a] h (RS (.int (bI (k < n))) h) := by
  refine Con.of X (by decide +kernel) [some (.ref a)] rfl (Nat.le_of_ble_eq_true rfl) (fun p e s m below meth c X hnm hret => ?_)
  refine aw_ald0 X dJx35411_hasNext_aae02_0 rfl ?_
  refine aw_get X fd_Jx35411_25 dJx35411_hasNext_aae02_1 rfl ha rfl ?_
  refine aw_ald0 X dJx35411_hasNext_aae02_4 rfl ?_
  refine aw_get X fd_Jx35411_1 dJx35411_hasNext_aae02_5 rfl ha rfl ?_
  refine aw_getN X (ci := 1) (fi := 2) rfl ft_Jx4a65c (by decide) rfl fn_Jx35411_28 dJx35411_hasNext_aae02_8 rfl hw.1 rfl ?_
  refine aw_icmp_eq (n2 := 18) X dJx35411_hasNext_aae02_11 rfl rfl (fun c11 => ?_) (fun c11 => ?_)
  · refine aw_iconst X (0) dJx35411_hasNext_aae02_18 (by decide) rfl ?_
    exact aw_iret X hret rfl dJx35411_hasNext_aae02_19 (⟨by rw [bI_f (fun q => absurd ((nI_eq (by have := hw.2.1; have := hw.2.2.1; omega) (by have := hw.2.1; have := hw.2.2.1; omega)).mp (hc.symm.trans c11)) (Nat.ne_of_lt q))], rfl⟩)
  · refine aw_iconst X (1) dJx35411_hasNext_aae02_14 (by decide) rfl ?_
    refine aw_goto (n := 19) X dJx35411_hasNext_aae02_15 rfl ?_
    exact aw_iret X hret rfl dJx35411_hasNext_aae02_19 (⟨by rw [bI_t (Nat.lt_of_le_of_ne hk (fun q => c11 (by rw [hc, q])))], rfl⟩)

set_option maxHeartbeats 4000000 in
set_option maxRecDepth 100000 in
theorem k_Jx35411_checkForComodification_da8c8 {l : Launch} {s0 : State} {a0 : Array Value} {G : GG} (X : CX l s0 a0 G) {h : AH} {a t tL tg L n ed cap : Nat} {g : Nat → Option Nat} {cur last md : Int32} (ha : h a = some (t, oItr cur last md L)) (hw : LR h tL L n g ed cap md)  : Con l s0 G yJx35411_checkForComodification_da8c8 cJx35411_checkForComodification_da8c8 1 none 0 0 0 tg [.ref a] h (RV h) := by
  refine Con.of X (by decide +kernel) [some (.ref a)] rfl (Nat.le_of_ble_eq_true rfl) (fun p e s m below meth c X hnm hret => ?_)
  refine aw_ald0 X dJx35411_checkForComodification_da8c8_0 rfl ?_
  refine aw_get X fd_Jx35411_1 dJx35411_checkForComodification_da8c8_1 rfl ha rfl ?_
  refine aw_get X fd_Jx35411_17 dJx35411_checkForComodification_da8c8_4 rfl hw.1 rfl ?_
  refine aw_ald0 X dJx35411_checkForComodification_da8c8_7 rfl ?_
  refine aw_get X fd_Jx35411_22 dJx35411_checkForComodification_da8c8_8 rfl ha rfl ?_
  refine aw_icmp_eq (n2 := 22) X dJx35411_checkForComodification_da8c8_11 rfl rfl (fun c11 => ?_) (fun c11 => absurd rfl c11)
  exact aw_vret X hret dJx35411_checkForComodification_da8c8_22 (⟨rfl, rfl⟩)

set_option maxHeartbeats 4000000 in
set_option maxRecDepth 100000 in
theorem k_Jx35411_next_0502b {l : Launch} {s0 : State} {a0 : Array Value} {G : GG} (X : CX l s0 a0 G) {h : AH} {a tL tg L n ed cap : Nat} {g : Nat → Option Nat} {cur last md : Int32} (htg : tg ≠ 0) (ha : h a = some (tg, oItr cur last md L)) (hw : LR h tL L n g ed cap md) {k y : Nat} (hc : cur = nI k) (hk : k < n) (hy : g k = some y)  : Con l s0 G yJx35411_next_0502b cJx35411_next_0502b 3 (some (.object "java/lang/Object")) 1 0 0 tg [.ref a] h (RS (.ref y) (hu h a (tg, oItr (nI (k + 1)) (nI k) md L))) := by
  refine Con.of X (by decide +kernel) [some (.ref a), none, none] rfl (Nat.le_of_ble_eq_true rfl) (fun p e s m below meth c X hnm hret => ?_)
  obtain ⟨te, hE⟩ := hw.2.2.2
  have hcap := hw.2.1
  have hcap2 := hw.2.2.1
  refine aw_ald0 X dJx35411_next_0502b_0 rfl ?_
  refine aw_callV X dJx35411_next_0502b_1 rfl (k_Jx35411_checkForComodification_da8c8 X.1 ha hw) cmJx35411_checkForComodification_da8c8 ml_Jx35411_31 rfl ha rfl rfl (Nat.le_of_ble_eq_true rfl) ⟨Nat.le_of_ble_eq_true rfl, Nat.le_of_ble_eq_true rfl⟩ (aw_rv ?_)
  refine aw_ald0 X dJx35411_next_0502b_4 rfl ?_
  refine aw_get X fd_Jx35411_25 dJx35411_next_0502b_5 rfl ha rfl ?_
  refine aw_ist1 X dJx35411_next_0502b_8 rfl (by decide) rfl ?_
  refine aw_ild1 X dJx35411_next_0502b_9 rfl ?_
  refine aw_ald0 X dJx35411_next_0502b_10 rfl ?_
  refine aw_get X fd_Jx35411_1 dJx35411_next_0502b_11 rfl ha rfl ?_
  refine aw_getN X (ci := 1) (fi := 2) rfl ft_Jx4a65c (by decide) rfl fn_Jx35411_28 dJx35411_next_0502b_14 rfl hw.1 rfl ?_
  refine aw_icmp_lt (n2 := 28) X dJx35411_next_0502b_17 rfl rfl (fun c17 => ?_) (fun c17 => absurd (by rw [hc]; exact nI_lt hk (by omega)) c17)
  refine aw_ald0 X dJx35411_next_0502b_28 rfl ?_
  refine aw_get X fd_Jx35411_1 dJx35411_next_0502b_29 rfl ha rfl ?_
  refine aw_get X fd_Jx35411_37 dJx35411_next_0502b_32 rfl hw.1 rfl ?_
  refine aw_ast2 X dJx35411_next_0502b_35 rfl (by decide) rfl ?_
  refine aw_ild1 X dJx35411_next_0502b_36 rfl ?_
  refine aw_ald2 X dJx35411_next_0502b_37 rfl ?_
  refine aw_alen X dJx35411_next_0502b_38 rfl hE (by decide) ?_
  refine aw_icmp_lt (n2 := 50) X dJx35411_next_0502b_39 rfl rfl (fun c39 => ?_) (fun c39 => absurd (by rw [hc]; exact nI_lt (by omega) (by omega)) c39)
  refine aw_ald0 X dJx35411_next_0502b_50 rfl ?_
  refine aw_ild1 X dJx35411_next_0502b_51 rfl ?_
  refine aw_iconst X (1) dJx35411_next_0502b_52 (by decide) rfl ?_
  refine aw_iadd X dJx35411_next_0502b_53 rfl ?_
  refine aw_put X fd_Jx35411_25 fw_Jx35411_0 dJx35411_next_0502b_54 rfl htg ha rfl rfl (Nat.le_of_ble_eq_true rfl) ?_
  refine aw_ald2 X dJx35411_next_0502b_57 rfl ?_
  refine aw_ald0 X dJx35411_next_0502b_58 rfl ?_
  refine aw_ild1 X dJx35411_next_0502b_59 rfl ?_
  refine aw_dup_x1 X dJx35411_next_0502b_60 rfl rfl rfl ?_
  refine aw_put X fd_Jx35411_13 fw_Jx35411_1 dJx35411_next_0502b_61 rfl htg hu_s rfl rfl (Nat.le_of_ble_eq_true rfl) ?_
  refine aw_aald X k dJx35411_next_0502b_64 rfl ((hu_n (ne_at hE ha (fun e => by cases e))).trans ((hu_n (ne_at hE ha (fun e => by cases e))).trans hE)) hc (by omega) (by omega) hy ?_
  exact aw_aret X hret (Or.inl ⟨_, rfl⟩) dJx35411_next_0502b_65 (⟨rfl, by rw [hu_hu, hc, ← nI_1]; rfl⟩)
