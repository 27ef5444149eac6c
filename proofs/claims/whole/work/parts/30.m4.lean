/-! THE MODEL'S BREACHES, ITS EXCHANGE -/
/-- how many scenes have a breach, as the model counts -/
def mN (P : Nat → Nat → Int32) (np : Nat) (F : Nat → Nat → Int32) (kf : Int32) (n : Nat) : Int32 := fo (fun i u => if 0 < mB P np F i (rB F i) (mK F kf i) then u + 1 else u) 0 n
theorem RwW.perm {h : AH} {tg te n cap ed : Nat} {g g2 : Nat → Option Nat} {fa : Nat → Nat} {F : Nat → Nat → Int32} {σ9 : Nat → Nat} (w : RwW h tg n g fa F) (hs : ∀ k, k < n → σ9 k < n) (hg : ∀ k, k < n → g2 k = g (σ9 k)) {g0 : Nat → Option Nat} (he : h ed = some (te, oArr cap g0)) {c : AC} : RwW (hu h ed c) tg n g2 (fun k => fa (σ9 k)) (fun k => F (σ9 k)) := fun k hk => ⟨(hg k hk).trans (w _ (hs k hk)).1, (hu_n (kk_ne (w _ (hs k hk)).2 he (show (100 : Nat) ≠ 103 by decide))).trans (w _ (hs k hk)).2⟩

set_option maxHeartbeats 4000000 in
set_option maxRecDepth 100000 in
theorem k_X7_breaches {l : Launch} {s0 : State} {a0 : Array Value} {G : GG} (X : CX l s0 a0 G) {h : AH} {tg mo : Nat} {A : KA} {t : Int32} {sm : Int64} {σ : NS} (htg : tg ≠ 0) (w : MoW G h tg mo A t sm σ) {tL tF L n ed cap : Nat} {g : Nat → Option Nat} {fa : Nat → Nat} {F : Nat → Nat → Int32} {md : Int32} (hw : LR h tL L n g ed cap md) (hR : RwW h tF n g fa F) (hm10 : n ≤ 10) (hk5 : ∀ k, k < σ.np → σ.P k 5 = 0 ∨ σ.P k 5 = 1) (hdi : ∀ k, k < n → F k 4 = -1 ∨ ∃ i, i < σ.np ∧ F k 4 = nI i)  : Con l s0 G yX7_breaches cX7_breaches 7 (some .int) 6 11 40 tg [.ref mo, .ref L] h (RE (.int (mN σ.P σ.np F (kfS σ.P σ.np) n)) h) := by
  refine Con.of X (by decide +kernel) [some (.ref mo), some (.ref L), none, none, none, none, none] rfl (Nat.le_of_ble_eq_true rfl) (fun p e s m below meth c X hnm hret => ?_)
  have w0 := w
  obtain ⟨hmo, ⟨hlp, hls, hlf⟩, ⟨hP, hS, hF⟩, ⟨hn8, hn10, hn12⟩, hdd⟩ := id w
  refine aw_iconst X (0) dX7_breaches_0 (by decide) rfl ?_
  refine aw_ist2 X dX7_breaches_1 rfl (by decide) rfl ?_
  refine aw_ald0 X dX7_breaches_2 rfl ?_
  refine aw_ald1 X dX7_breaches_3 rfl ?_
  refine aw_callV X dX7_breaches_4 rfl (k_X7_plot X.1 htg w0 hw hR hm10 hk5 hdi) cmX7_plot ml_X7_68 rfl hmo rfl rfl (Nat.le_of_ble_eq_true rfl) ⟨Nat.le_of_ble_eq_true rfl, Nat.le_of_ble_eq_true rfl⟩ (fun r h2 hq hf => ?_)
  obtain ⟨q, r, rfl, htb⟩ := hq
  refine aw_ast3 X dX7_breaches_7 rfl (by decide) rfl ?_
  refine aw_ald3 X dX7_breaches_8 rfl ?_
  refine aw_alen X dX7_breaches_9 rfl htb.2.1 (by decide) ?_
  refine aw_ist4 X dX7_breaches_10 rfl (by decide) rfl ?_
  refine aw_iconst X (0) dX7_breaches_12 (by decide) rfl ?_
  refine aw_ist5 X dX7_breaches_13 rfl (by decide) rfl ?_
  refine aw_dn (n := n) (A := fun j k => ∀ (y6 : Option Value), ∀ (x : Int32), ∀ (u : Int32), (x = nI k) → (u = mN σ.P σ.np F (kfS σ.P σ.np) k) → AW p l e _ s m _ below meth c _ s0 G 7 tg _ h2 _ _ 15 [some (.ref mo), some (.ref L), some (.int u), some (.ref q), some (.int (nI n)), some (.int x), y6] []) ?_ ?_ n 0 rfl none 0 0 nI_0.symm rfl
  · intro y6 x u hx hI
    refine aw_ild5 X dX7_breaches_15 rfl ?_
    refine aw_ild4 X dX7_breaches_17 rfl ?_
    refine aw_icmp_ge (n2 := 49) X dX7_breaches_19 rfl rfl (fun c19 => ?_) (fun c19 => absurd (ge_t hx (Nat.le_refl _) (by omega)) c19)
    refine aw_ild2 X dX7_breaches_49 rfl ?_
    exact aw_iret X hret rfl dX7_breaches_50 (⟨by rw [hI], htb.1⟩)
  · intro j k hjk ih y6 x u hx hI
    refine aw_ild5 X dX7_breaches_15 rfl ?_
    refine aw_ild4 X dX7_breaches_17 rfl ?_
    refine aw_icmp_ge (n2 := 49) X dX7_breaches_19 rfl rfl (fun c19 => absurd c19 (ge_f hx (by omega) (by omega))) (fun c19 => ?_)
    refine aw_ald3 X dX7_breaches_22 rfl ?_
    refine aw_ild5 X dX7_breaches_23 rfl ?_
    refine aw_aald2 X k dX7_breaches_25 rfl htb.2.1 hx (by omega) (by omega) (if_pos (by omega)) ?_
    refine aw_ast6 X dX7_breaches_26 rfl (by decide) rfl ?_
    refine aw_ild2 X dX7_breaches_28 rfl ?_
    refine aw_ald6 X dX7_breaches_29 rfl ?_
    refine aw_iconst X (1) dX7_breaches_31 (by decide) rfl ?_
    refine aw_iald X (1) dX7_breaches_32 rfl (htb.2.2 k (by omega)) rfl (by decide) (by decide) ?_
    refine aw_if_le (n2 := 40) X dX7_breaches_33 rfl rfl (fun c33 => ?_) (fun c33 => ?_)
    · refine aw_iconst X (0) dX7_breaches_40 (by decide) rfl ?_
      refine aw_iadd X dX7_breaches_41 rfl ?_
      refine aw_ist2 X dX7_breaches_42 rfl (by decide) rfl ?_
      refine aw_iinc5 X (1) dX7_breaches_43 (by decide) rfl (by decide) rfl ?_
      refine aw_goto (n := 15) X dX7_breaches_46 rfl ?_
      exact ih _ (x + 1) _ (nx hx) (by rw [hI, Int32.add_zero]; exact (if_neg (Int32.not_lt.mpr c33)).symm)
    · refine aw_iconst X (1) dX7_breaches_36 (by decide) rfl ?_
      refine aw_goto (n := 41) X dX7_breaches_37 rfl ?_
      refine aw_iadd X dX7_breaches_41 rfl ?_
      refine aw_ist2 X dX7_breaches_42 rfl (by decide) rfl ?_
      refine aw_iinc5 X (1) dX7_breaches_43 (by decide) rfl (by decide) rfl ?_
      refine aw_goto (n := 15) X dX7_breaches_46 rfl ?_
      exact ih _ (x + 1) _ (nx hx) (by rw [hI]; exact (if_pos (Int32.not_le.mp c33)).symm)

set_option maxHeartbeats 4000000 in
set_option maxRecDepth 100000 in
theorem k_X7_exchange {l : Launch} {s0 : State} {a0 : Array Value} {G : GG} (X : CX l s0 a0 G) {h : AH} {tL tF tg L n ed cap : Nat} {g : Nat → Option Nat} {fa : Nat → Nat} {F : Nat → Nat → Int32} {md : Int32} (htg : tg ≠ 0) (hw : LR h tL L n g ed cap md) (hE : h ed = some (tg, oArr cap g)) (hR : RwW h tF n g fa F) {i j : Nat} {xi xj : Int32} (hi : xi = nI i) (hj : xj = nI j) (hin : i < n) (hjn : j < n)  : Con l s0 G yX7_exchange cX7_exchange 4 none 3 0 0 tg [.ref L, .int xi, .int xj] h (RV (hu h ed (tg, oArr cap (va_up (va_up g i (some (fa j))) j (some (fa i)))))) := by
  refine Con.of X (by decide +kernel) [some (.ref L), some (.int xi), some (.int xj), none] rfl (Nat.le_of_ble_eq_true rfl) (fun p e s m below meth c X hnm hret => ?_)
  have hcap := hw.2.1
  have hcap2 := hw.2.2.1
  have hA1 : hu h ed (tg, oArr cap (va_up g i (some (fa j)))) L = some (tL, oLst md ed (nI n)) := (hu_n (kk_ne hw.1 hE (show (1 : Nat) ≠ 103 by decide))).trans hw.1
  have hA2 : hu h ed (tg, oArr cap (va_up g i (some (fa j)))) (fa i) = some (tF, oRow 6 (F i)) := (hu_n (kk_ne (hR i hin).2 hE (show (100 : Nat) ≠ 103 by decide))).trans (hR i hin).2
  obtain ⟨yj, hyj⟩ : ∃ yj, va_up g i (some (fa j)) j = some yj := by
    by_cases q : j = i
    · rw [q, va_up_self]; exact ⟨_, rfl⟩
    · rw [va_up_ne _ _ q]; exact ⟨_, (hR j hjn).1⟩
  subst hi hj
  refine aw_ald0 X dX7_exchange_0 rfl ?_
  refine aw_ild1 X dX7_exchange_1 rfl ?_
  refine aw_callV X dX7_exchange_2 rfl (k_rget X.1 hw rfl hin (hR i hin).1) cmJx4a65c_get_915e3 ml_X7_48 rfl hw.1 rfl rfl (Nat.le_of_ble_eq_true rfl) ⟨Nat.le_of_ble_eq_true rfl, Nat.le_of_ble_eq_true rfl⟩ (aw_rs ?_)
  refine aw_castA X dX7_exchange_5 rfl (kd := 0) (by decide) cc_X7_52 (hR i hin).2 ?_
  refine aw_ast3 X dX7_exchange_8 rfl (by decide) rfl ?_
  refine aw_ald0 X dX7_exchange_9 rfl ?_
  refine aw_ild1 X dX7_exchange_10 rfl ?_
  refine aw_ald0 X dX7_exchange_11 rfl ?_
  refine aw_ild2 X dX7_exchange_12 rfl ?_
  refine aw_callV X dX7_exchange_13 rfl (k_rget X.1 hw rfl hjn (hR j hjn).1) cmJx4a65c_get_915e3 ml_X7_48 rfl hw.1 rfl rfl (Nat.le_of_ble_eq_true rfl) ⟨Nat.le_of_ble_eq_true rfl, Nat.le_of_ble_eq_true rfl⟩ (aw_rs ?_)
  refine aw_castA X dX7_exchange_16 rfl (kd := 0) (by decide) cc_X7_52 (hR j hjn).2 ?_
  refine aw_callV X dX7_exchange_19 rfl (k_Jx4a65c_set_bcc79 X.1 htg hw.1 hE hin hcap (by omega) (hR i hin).1 (hR j hjn).2 ob_row) cmJx4a65c_set_bcc79 ml_X7_89 rfl hw.1 rfl rfl (Nat.le_of_ble_eq_true rfl) ⟨Nat.le_of_ble_eq_true rfl, Nat.le_of_ble_eq_true rfl⟩ (aw_rs ?_)
  refine aw_pop X dX7_exchange_22 rfl rfl ?_
  refine aw_ald0 X dX7_exchange_23 rfl ?_
  refine aw_ild2 X dX7_exchange_24 rfl ?_
  refine aw_ald3 X dX7_exchange_25 rfl ?_
  refine aw_callV X dX7_exchange_26 rfl (k_Jx4a65c_set_bcc79 X.1 htg hA1 hu_s hjn hcap (by omega) hyj hA2 ob_row) cmJx4a65c_set_bcc79 ml_X7_89 rfl hA1 rfl rfl (Nat.le_of_ble_eq_true rfl) ⟨Nat.le_of_ble_eq_true rfl, Nat.le_of_ble_eq_true rfl⟩ (aw_rs ?_)
  refine aw_pop X dX7_exchange_29 rfl rfl ?_
  exact aw_vret X hret dX7_exchange_30 (⟨rfl, by rw [hu_hu]⟩)
