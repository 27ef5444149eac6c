/-! THE MODEL'S CALLS: the best exchange, the mean shadow -/
def tri : Nat → Nat
  | 0 => 0
  | j + 1 => tri j + j
theorem tri_s (j : Nat) : tri (j + 1) = tri j + j := rfl
theorem tri_10 : ∀ n, n < 11 → tri n ≤ 45 := by decide +kernel
/-- the best exchange so far -/
abbrev bO (σ : NS) (k : Nat) : Int32 × Int32 := bOut σ.S (cbS σ) (kfS σ.P σ.np) σ.ns k
abbrev bI9 (σ : NS) (k t : Nat) : Int32 × Int32 := bIn σ.S (cbS σ) (kfS σ.P σ.np) σ.ns k (bO σ k) t
theorem RwW.oth {h h2 : AH} {tg n : Nat} {g g2 : Nat → Option Nat} {fa : Nat → Nat} {F : Nat → Nat → Int32} (b : RwW h tg n g fa F) (hg : ∀ j, j < n → g2 j = g j) (hk : ∀ a c, h a = some c → h2 a = some c) : RwW h2 tg n g2 fa F := fun k hk9 => ⟨(hg k hk9).trans (b k hk9).1, hk _ _ (b k hk9).2⟩

set_option maxHeartbeats 4000000 in
set_option maxRecDepth 100000 in
theorem k_X7_swapNow {l : Launch} {s0 : State} {a0 : Array Value} {G : GG} (X : CX l s0 a0 G) {h : AH} {tg mo : Nat} {A : KA} {t : Int32} {sm : Int64} {σ : NS} (htg : tg ≠ 0) (w : MoW G h tg mo A t sm σ) (hv : IV σ) {t1 : Nat} (h1 : h (G.2.2 1) = some (t1, oArr 0 (fun _ => none)))  : Con l s0 G yX7_swapNow cX7_swapNow 7 (some .int) 7 508 1858 tg [.ref mo] h (RE (.int (bsS σ)) h) := by
  refine Con.of X (by decide +kernel) [some (.ref mo), none, none, none, none, none, none] rfl (Nat.le_of_ble_eq_true rfl) (fun p e s m below meth c X hnm hret => ?_)
  have w0 := w
  obtain ⟨hmo, ⟨hlp, hls, hlf⟩, ⟨hP, hS, hF⟩, ⟨hn8, hn10, hn12⟩, hdd⟩ := id w
  refine aw_new X nw_X7_7 dX7_swapNow_0 rfl (fun q0 hq0 => ?_)
  refine aw_dup X dX7_swapNow_3 rfl rfl ?_
  refine aw_ald0 X dX7_swapNow_4 rfl ?_
  refine aw_get X fd_X7_19 dX7_swapNow_5 rfl (hu_k hq0 hmo) rfl ?_
  refine AW.mono (bc2 := 506 + 1) (bs2 := 1840 + σ.ns) (by decide) (by omega) ?_
  refine aw_callI X dX7_swapNow_8 rfl (k_lcopy X.1 htg hu_s (hu_k hq0 hls.1) (nn_ne hls.1 hq0).symm (hu_k hq0 hls.lr.2.2.2.choose_spec) hls.2.2.1 hls.cap (hu_k hq0 h1) (fun j hj y hy => by
    have e9 := hS j hj
    rw [hy] at e9
    cases e9.1
    exact ⟨tg, _, hu_k hq0 e9.2, ob_row⟩)) cmJx4a65c_init_4bcb3 ml_X7_227 rfl rfl (Nat.le_of_ble_eq_true rfl) ⟨Nat.le_of_ble_eq_true rfl, Nat.le_of_ble_eq_true rfl⟩ (fun r h2 hq hf => ?_)
  obtain ⟨rfl, ed2, g2, hw2, hg2, hE2, hf2, hk2⟩ := hq
  have hfr : 0 < σ.ns → ∀ a c, h a = some c → a ≠ ed2 := fun z a c e => nn_ne (hu_k hq0 e) (hf2 z)
  have hq0k : ∀ a c, h a = some c → a ≠ q0 := fun a c e => nn_ne e hq0
  have hx2 : ∀ a c, h a = some c → h2 a = some c := fun a c e => hk2 a c (hu_k hq0 e) (hq0k a c e)
  have w2 := w0.ext hx2
  have hR2 : RwW h2 tg σ.ns g2 A.sa σ.S := hS.oth hg2 hx2
  refine aw_ast1 X dX7_swapNow_11 rfl (by decide) rfl ?_
  refine aw_ald0 X dX7_swapNow_12 rfl ?_
  refine aw_ald1 X dX7_swapNow_13 rfl ?_
  refine aw_callV X dX7_swapNow_14 rfl (k_X7_breaches X.1 htg w2 hw2 hR2 hn10 hv.k5 hv.dis) cmX7_breaches ml_X7_116 rfl w2.1 rfl rfl (Nat.le_of_ble_eq_true rfl) ⟨Nat.le_of_ble_eq_true rfl, Nat.le_of_ble_eq_true rfl⟩ (fun r h3 hq hf => ?_)
  obtain ⟨rfl, hx3⟩ := hq
  rw [mN_eq hv.1.1 hv.sv, ← cbS_mcb]
  refine aw_ist2 X dX7_swapNow_17 rfl (by decide) rfl ?_
  refine aw_iconst X (-1) dX7_swapNow_18 (by decide) rfl ?_
  refine aw_ist3 X dX7_swapNow_19 rfl (by decide) rfl ?_
  refine aw_iconst X (0) dX7_swapNow_20 (by decide) rfl ?_
  refine aw_ist4 X dX7_swapNow_21 rfl (by decide) rfl ?_
  refine aw_dn (n := σ.ns) (A := fun j k => ∀ (y5 : Option Value), ∀ (y6 : Option Value), ∀ (h9 : AH), ∀ (g9 : Nat → Option Nat), ∀ (x : Int32), ∀ (b : Nat), ∀ (d : Nat), (∀ a c, h a = some c → h9 a = some c) → (LR h9 tg q0 σ.ns g9 ed2 σ.ns 0) → (0 < σ.ns → h9 ed2 = some (tg, oArr σ.ns g9)) → (RwW h9 tg σ.ns g9 A.sa σ.S) → (x = nI k) → (11 * tri j ≤ b) → (40 * tri j ≤ d) → AW p l e _ s m _ below meth c _ s0 G 7 tg _ h9 b d 23 [some (.ref mo), some (.ref q0), some (.int (bO σ k).1), some (.int (bO σ k).2), some (.int x), y5, y6] []) ?_ ?_ σ.ns 0 rfl none none h3 g2 0 495 1800 (fun a c e => hx3 a c (hx2 a c e)) (hw2.ext hx3) (fun z => hx3 _ _ (hE2 z)) (hR2.ext hx3) nI_0.symm (by have := tri_10 σ.ns (by omega); omega) (by have := tri_10 σ.ns (by omega); omega)
  · intro y5 y6 h9 g9 x b d hx9 hw9 hE9 hR9 hx hb hd
    refine aw_ild4 X dX7_swapNow_23 rfl ?_
    refine aw_ald1 X dX7_swapNow_25 rfl ?_
    refine aw_callV X dX7_swapNow_26 rfl (k_rsize X.1 hw9) cmJx4a65c_size_8abf5 ml_X7_38 rfl hw9.1 rfl rfl (Nat.le_of_ble_eq_true rfl) ⟨Nat.le_of_ble_eq_true rfl, Nat.le_of_ble_eq_true rfl⟩ (aw_rs ?_)
    refine aw_icmp_ge (n2 := 103) X dX7_swapNow_29 rfl rfl (fun c29 => ?_) (fun c29 => absurd (ge_t hx (Nat.le_refl _) (by omega)) c29)
    refine aw_ild3 X dX7_swapNow_103 rfl ?_
    exact aw_iret X hret rfl dX7_swapNow_104 (⟨rfl, hx9⟩)
  · intro j k hjk ih y5 y6 h9 g9 x b d hx9 hw9 hE9 hR9 hx hb hd
    refine aw_ild4 X dX7_swapNow_23 rfl ?_
    refine aw_ald1 X dX7_swapNow_25 rfl ?_
    refine aw_callV X dX7_swapNow_26 rfl (k_rsize X.1 hw9) cmJx4a65c_size_8abf5 ml_X7_38 rfl hw9.1 rfl rfl (Nat.le_of_ble_eq_true rfl) ⟨Nat.le_of_ble_eq_true rfl, Nat.le_of_ble_eq_true rfl⟩ (aw_rs ?_)
    refine aw_icmp_ge (n2 := 103) X dX7_swapNow_29 rfl rfl (fun c29 => absurd c29 (ge_f hx (by omega) (by omega))) (fun c29 => ?_)
    refine aw_ild4 X dX7_swapNow_32 rfl ?_
    refine aw_iconst X (1) dX7_swapNow_34 (by decide) rfl ?_
    refine aw_iadd X dX7_swapNow_35 rfl ?_
    refine aw_ist5 X dX7_swapNow_36 rfl (by decide) rfl ?_
    refine aw_dn (n := (σ.ns - (k + 1))) (A := fun j2 t => ∀ (y6 : Option Value), ∀ (h8 : AH), ∀ (g9 : Nat → Option Nat), ∀ (x5 : Int32), ∀ (b3 : Nat), ∀ (d3 : Nat), (∀ a c, h a = some c → h8 a = some c) → (LR h8 tg q0 σ.ns g9 ed2 σ.ns 0) → (0 < σ.ns → h8 ed2 = some (tg, oArr σ.ns g9)) → (RwW h8 tg σ.ns g9 A.sa σ.S) → (x5 = nI (k + 1 + t)) → (11 * j2 + 11 * tri j ≤ b3) → (40 * j2 + 40 * tri j ≤ d3) → AW p l e _ s m _ below meth c _ s0 G 7 tg _ h8 b3 d3 38 [some (.ref mo), some (.ref q0), some (.int (bI9 σ k t).1), some (.int (bI9 σ k t).2), some (.int x), some (.int x5), y6] []) ?_ ?_ (σ.ns - (k + 1)) 0 rfl _ h9 g9 (x + 1) b d hx9 hw9 hE9 hR9 (nx hx) (by have := tri_s j; omega) (by have := tri_s j; omega)
    · intro y6 h8 g9 x5 b3 d3 hx9 hw9 hE9 hR9 hxj hb3 hd3
      have hwz := hw9
      refine aw_ild5 X dX7_swapNow_38 rfl ?_
      refine aw_ald1 X dX7_swapNow_40 rfl ?_
      refine aw_callV X dX7_swapNow_41 rfl (k_rsize X.1 hw9) cmJx4a65c_size_8abf5 ml_X7_38 rfl hw9.1 rfl rfl (Nat.le_of_ble_eq_true rfl) ⟨Nat.le_of_ble_eq_true rfl, Nat.le_of_ble_eq_true rfl⟩ (aw_rs ?_)
      refine aw_icmp_ge (n2 := 97) X dX7_swapNow_44 rfl rfl (fun c44 => ?_) (fun c44 => absurd (ge_t hxj (by omega) (by omega)) c44)
      refine aw_iinc4 X (1) dX7_swapNow_97 (by decide) rfl (by decide) rfl ?_
      refine aw_goto (n := 23) X dX7_swapNow_100 rfl ?_
      exact ih _ _ h8 g9 (x + 1) b3 d3 hx9 hw9 hE9 hR9 (nx hx) (by omega) (by omega)
    · intro j2 t hjt ih2 y6 h8 g9 x5 b3 d3 hx9 hw9 hE9 hR9 hxj hb3 hd3
      have hn0 : 0 < σ.ns := by omega
      have hi9 : k < σ.ns := by omega
      have hj9 : k + 1 + t < σ.ns := by omega
      refine aw_ild5 X dX7_swapNow_38 rfl ?_
      refine aw_ald1 X dX7_swapNow_40 rfl ?_
      refine aw_callV X dX7_swapNow_41 rfl (k_rsize X.1 hw9) cmJx4a65c_size_8abf5 ml_X7_38 rfl hw9.1 rfl rfl (Nat.le_of_ble_eq_true rfl) ⟨Nat.le_of_ble_eq_true rfl, Nat.le_of_ble_eq_true rfl⟩ (aw_rs ?_)
      refine aw_icmp_ge (n2 := 97) X dX7_swapNow_44 rfl rfl (fun c44 => absurd c44 (ge_f hxj (by omega) (by omega))) (fun c44 => ?_)
      refine aw_ald1 X dX7_swapNow_47 rfl ?_
      refine aw_ild4 X dX7_swapNow_48 rfl ?_
      refine aw_ild5 X dX7_swapNow_50 rfl ?_
      refine aw_callS X dX7_swapNow_52 rfl (k_X7_exchange X.1 htg hw9 (hE9 hn0) hR9 hx hxj hi9 hj9) cmX7_exchange ml_X7_112 rfl rfl (Nat.le_of_ble_eq_true rfl) ⟨Nat.le_of_ble_eq_true rfl, Nat.le_of_ble_eq_true rfl⟩ (aw_rv ?_)
      have hEk := hE9 hn0
      have hgs := swp_g (fun k9 hk9 => (hR9 k9 hk9).1) hi9 hj9
      generalize hg8 : va_up (va_up g9 k (some (A.sa (k + 1 + t)))) (k + 1 + t) (some (A.sa k)) = g8 at hgs ⊢
      have hneq : q0 ≠ ed2 := kk_ne hw9.1 hEk (show (1 : Nat) ≠ 103 by decide)
      have hx8 : ∀ a c, h a = some c → hu h8 ed2 (tg, oArr σ.ns g8) a = some c := fun a c e => (hu_n (hfr hn0 a c e)).trans (hx9 a c e)
      have hw8 : LR (hu h8 ed2 (tg, oArr σ.ns g8)) tg q0 σ.ns g8 ed2 σ.ns 0 := ⟨(hu_n hneq).trans hw9.1, hw9.2.1, hw9.2.2.1, tg, hu_s⟩
      have hR8 := hR9.perm (σ9 := sw k (k + 1 + t)) (fun k9 hk9 => sw_lt hi9 hj9 hk9) hgs hEk (c := (tg, oArr σ.ns g8))
      have w8 := w0.ext hx8
      have hsv8 := hv.sv.perm (s := sw k (k + 1 + t)) (fun k9 hk9 => sw_lt hi9 hj9 hk9)
      refine aw_ald0 X dX7_swapNow_55 rfl ?_
      refine aw_ald1 X dX7_swapNow_56 rfl ?_
      obtain ⟨b4, rfl⟩ : ∃ b4, b3 = b4 + 11 := ⟨b3 - 11, by omega⟩
      obtain ⟨d4, rfl⟩ : ∃ d4, d3 = d4 + 40 := ⟨d3 - 40, by omega⟩
      refine aw_callV X dX7_swapNow_57 rfl (k_X7_breaches X.1 htg w8 hw8 hR8 hn10 hv.k5 (fun k9 hk9 => hsv8.di hv.1.1 hk9)) cmX7_breaches ml_X7_116 rfl w8.1 rfl rfl (Nat.le_of_ble_eq_true rfl) ⟨Nat.le_of_ble_eq_true rfl, Nat.le_of_ble_eq_true rfl⟩ (fun r h7 hq hf => ?_)
      obtain ⟨rfl, hx7⟩ := hq
      rw [mN_eq hv.1.1 hsv8, show mcb σ.P σ.np (fun k9 => σ.S (sw k (k + 1 + t) k9)) = (fun k9 => cbS σ (sw k (k + 1 + t) k9)) from rfl]
      have hw7 := hw8.ext hx7
      have hE7 := hx7 _ _ (hu_s (h := h8) (a := ed2) (x := (tg, oArr σ.ns g8)))
      have hR7 := hR8.ext hx7
      refine aw_ist6 X dX7_swapNow_60 rfl (by decide) rfl ?_
      refine aw_ald1 X dX7_swapNow_62 rfl ?_
      refine aw_ild4 X dX7_swapNow_63 rfl ?_
      refine aw_ild5 X dX7_swapNow_65 rfl ?_
      refine aw_callS X dX7_swapNow_67 rfl (k_X7_exchange X.1 htg hw7 hE7 hR7 hx hxj hi9 hj9) cmX7_exchange ml_X7_112 rfl rfl (Nat.le_of_ble_eq_true rfl) ⟨Nat.le_of_ble_eq_true rfl, Nat.le_of_ble_eq_true rfl⟩ (aw_rv ?_)
      have hgs2 := swp_g (fun k9 hk9 => (hR7 k9 hk9).1) hi9 hj9
      generalize hg6 : va_up (va_up g8 k (some (A.sa (sw k (k + 1 + t) (k + 1 + t))))) (k + 1 + t) (some (A.sa (sw k (k + 1 + t) k))) = g6 at hgs2 ⊢
      have hx6 : ∀ a c, h a = some c → hu h7 ed2 (tg, oArr σ.ns g6) a = some c := fun a c e => (hu_n (hfr hn0 a c e)).trans (hx7 a c (hx8 a c e))
      have hw6 : LR (hu h7 ed2 (tg, oArr σ.ns g6)) tg q0 σ.ns g6 ed2 σ.ns 0 := ⟨(hu_n hneq).trans hw7.1, hw7.2.1, hw7.2.2.1, tg, hu_s⟩
      have hR6 := hR7.perm (σ9 := sw k (k + 1 + t)) (fun k9 hk9 => sw_lt hi9 hj9 hk9) hgs2 hE7 (c := (tg, oArr σ.ns g6))
      rw [show (fun k9 => A.sa (sw k (k + 1 + t) (sw k (k + 1 + t) k9))) = A.sa from sw_f A.sa k (k + 1 + t), show (fun k9 => σ.S (sw k (k + 1 + t) (sw k (k + 1 + t) k9))) = σ.S from sw_f σ.S k (k + 1 + t)] at hR6
      refine aw_ild6 X dX7_swapNow_70 rfl ?_
      refine aw_ild2 X dX7_swapNow_72 rfl ?_
      refine aw_icmp_lt (n2 := 79) X dX7_swapNow_73 rfl rfl (fun c73 => ?_) (fun c73 => ?_)
      · refine aw_ild6 X dX7_swapNow_79 rfl ?_
        refine aw_ist2 X dX7_swapNow_81 rfl (by decide) rfl ?_
        refine aw_bipush X (10) dX7_swapNow_82 (by decide) rfl ?_
        refine aw_ild4 X dX7_swapNow_84 rfl ?_
        refine aw_imul X dX7_swapNow_86 rfl ?_
        refine aw_ild5 X dX7_swapNow_87 rfl ?_
        refine aw_iadd X dX7_swapNow_89 rfl ?_
        refine aw_ist3 X dX7_swapNow_90 rfl (by decide) rfl ?_
        refine aw_iinc5 X (1) dX7_swapNow_91 (by decide) rfl (by decide) rfl ?_
        refine aw_goto (n := 38) X dX7_swapNow_94 rfl ?_
        have hB : bStep σ.S (cbS σ) (kfS σ.P σ.np) σ.ns k (k + 1 + t) (bI9 σ k t) = (rN (fun k9 => σ.S (sw k (k + 1 + t) k9)) (fun k9 => cbS σ (sw k (k + 1 + t) k9)) (kfS σ.P σ.np) σ.ns, 10 * x + x5) := by rw [hx, hxj]; exact if_pos c73
        have hqq := fun y9 => ih2 y9 (hu h7 ed2 (tg, oArr σ.ns g6)) g6 (x5 + 1) b4 d4 hx6 hw6 (fun _ => hu_s) hR6 (nx hxj) (by omega) (by omega)
        rw [← show bStep σ.S (cbS σ) (kfS σ.P σ.np) σ.ns k (k + 1 + t) (bI9 σ k t) = bI9 σ k (t + 1) from bIn_s, hB] at hqq
        exact hqq _
      · refine aw_goto (n := 91) X dX7_swapNow_76 rfl ?_
        refine aw_iinc5 X (1) dX7_swapNow_91 (by decide) rfl (by decide) rfl ?_
        refine aw_goto (n := 38) X dX7_swapNow_94 rfl ?_
        have hB : bStep σ.S (cbS σ) (kfS σ.P σ.np) σ.ns k (k + 1 + t) (bI9 σ k t) = bI9 σ k t := if_neg c73
        have hqq := fun y9 => ih2 y9 (hu h7 ed2 (tg, oArr σ.ns g6)) g6 (x5 + 1) b4 d4 hx6 hw6 (fun _ => hu_s) hR6 (nx hxj) (by omega) (by omega)
        rw [← show bStep σ.S (cbS σ) (kfS σ.P σ.np) σ.ns k (k + 1 + t) (bI9 σ k t) = bI9 σ k (t + 1) from bIn_s, hB] at hqq
        exact hqq _

set_option maxHeartbeats 4000000 in
set_option maxRecDepth 100000 in
theorem k_X7_bestSwap {l : Launch} {s0 : State} {a0 : Array Value} {G : GG} (X : CX l s0 a0 G) {h : AH} {tg mo : Nat} {A : KA} {t : Int32} {sm : Int64} {σ : NS} (htg : tg ≠ 0) (w : MoW G h tg mo A t sm σ) (hv : IV σ) {t1 : Nat} (h1 : h (G.2.2 1) = some (t1, oArr 0 (fun _ => none)))  : Con l s0 G yX7_bestSwap cX7_bestSwap 1 (some .int) 8 508 1858 tg [.ref mo] h (fun r h2 => some (.int (bsS σ)) = r ∧ MoW G h2 tg mo A 0 sm σ) := by
  refine Con.of X (by decide +kernel) [some (.ref mo)] rfl (Nat.le_of_ble_eq_true rfl) (fun p e s m below meth c X hnm hret => ?_)
  have w0 := w
  obtain ⟨hmo, ⟨hlp, hls, hlf⟩, ⟨hP, hS, hF⟩, ⟨hn8, hn10, hn12⟩, hdd⟩ := id w
  refine aw_ald0 X dX7_bestSwap_0 rfl ?_
  refine aw_iconst X (0) dX7_bestSwap_1 (by decide) rfl ?_
  refine aw_put X fd_X7_35 fw_X7_0 dX7_bestSwap_2 rfl htg hmo rfl rfl (Nat.le_of_ble_eq_true rfl) ?_
  refine aw_genP (Pr := fun h3 => MoW G h3 tg mo A 0 sm σ ∧ h3 (G.2.2 1) = some (t1, oArr 0 (fun _ => none))) ⟨w0.obj 0 sm σ.v, (hu_n (kk_ne h1 hmo (show (103 : Nat) ≠ 9 by decide))).trans h1⟩ (fun hh wz => ?_)
  obtain ⟨w1, h19⟩ := wz
  clear hmo hlp hls hlf hP hS hF hdd
  obtain ⟨hmo, ⟨hlp, hls, hlf⟩, ⟨hP, hS, hF⟩, -, hdd⟩ := id w1
  refine aw_ald0 X dX7_bestSwap_5 rfl ?_
  refine aw_callV X dX7_bestSwap_6 rfl (k_X7_swapNow X.1 htg w1 hv h19) cmX7_swapNow ml_X7_230 rfl hmo rfl rfl (Nat.le_of_ble_eq_true rfl) ⟨Nat.le_of_ble_eq_true rfl, Nat.le_of_ble_eq_true rfl⟩ (fun r h2 hq hf => ?_)
  obtain ⟨rfl, hxA⟩ := hq
  exact aw_iret X hret rfl dX7_bestSwap_9 (⟨rfl, w1.ext hxA⟩)

theorem dd_ok {s c : Int32} (h : ¬ c = 0) : vf_n64 (FP.ddiv (FP.i2d s) (FP.i2d c)) := by
  have h1 := Jvm.FP.Core.ddiv_mag (a := FP.i2d s) (b := FP.i2d c) (K := 1056) (L := 1023) (Jvm.FP.Core.i2d_mag s) (Jvm.FP.Core.i2d_big (Jvm.FP.Core.int32_ne h)).1 (Jvm.FP.Core.i2d_big (Jvm.FP.Core.int32_ne h)).2 (by decide) (by decide)
  unfold vf_n64
  rw [UInt64.le_iff_toNat_le, UInt64.toNat_and, show (0x7fffffffffffffff : UInt64).toNat = 2 ^ 63 - 1 by decide, Nat.and_two_pow_sub_one_eq_mod, show (0x7ff0000000000000 : UInt64).toNat = 2047 * 2 ^ 52 by decide]
  have h2 : (FP.ddiv (FP.i2d s) (FP.i2d c)).toNat % 2 ^ 63 < (1056 + (1074 - 52 - 1) - 1023 + 3) * 2 ^ 52 := h1
  omega

set_option maxHeartbeats 4000000 in
set_option maxRecDepth 100000 in
theorem k_X7_meanShadow {l : Launch} {s0 : State} {a0 : Array Value} {G : GG} (X : CX l s0 a0 G) {h : AH} {tg mo : Nat} {A : KA} {t : Int32} {sm : Int64} {σ : NS} (htg : tg ≠ 0) (w : MoW G h tg mo A t sm σ) (hv : IV σ)  : Con l s0 G yX7_meanShadow cX7_meanShadow 4 (some .double) 4 3 12 tg [.ref mo] h (fun r h2 => some (.double (meanS σ)) = r ∧ MoW G h2 tg mo A 0 sm σ) := by
  refine Con.of X (by decide +kernel) [some (.ref mo), none, none, none] rfl (Nat.le_of_ble_eq_true rfl) (fun p e s m below meth c X hnm hret => ?_)
  have w0 := w
  obtain ⟨hmo, ⟨hlp, hls, hlf⟩, ⟨hP, hS, hF⟩, ⟨hn8, hn10, hn12⟩, hdd⟩ := id w
  refine aw_ald0 X dX7_meanShadow_0 rfl ?_
  refine aw_iconst X (0) dX7_meanShadow_1 (by decide) rfl ?_
  refine aw_put X fd_X7_35 fw_X7_0 dX7_meanShadow_2 rfl htg hmo rfl rfl (Nat.le_of_ble_eq_true rfl) ?_
  refine aw_genP (Pr := fun h3 => MoW G h3 tg mo A 0 sm σ) (w0.obj 0 sm σ.v) (fun h w1 => ?_)
  have w0 := w1
  clear hmo hlp hls hlf hP hS hF hdd
  obtain ⟨hmo, ⟨hlp, hls, hlf⟩, ⟨hP, hS, hF⟩, -, hdd⟩ := id w1
  refine aw_iconst X (0) dX7_meanShadow_5 (by decide) rfl ?_
  refine aw_ist1 X dX7_meanShadow_6 rfl (by decide) rfl ?_
  refine aw_ald0 X dX7_meanShadow_7 rfl ?_
  refine aw_get X fd_X7_16 dX7_meanShadow_8 rfl hmo rfl ?_
  refine aw_callV X dX7_meanShadow_11 rfl (k_Jx4a65c_iterator_32c93 X.1 htg hlf.1) cmJx4a65c_iterator_32c93 ml_X7_72 rfl hlf.1 rfl rfl (Nat.le_of_ble_eq_true rfl) ⟨Nat.le_of_ble_eq_true rfl, Nat.le_of_ble_eq_true rfl⟩ (fun r h2 hq hf => ?_)
  obtain ⟨q11, hq11, rfl, rfl⟩ := hq
  refine aw_ast2 X dX7_meanShadow_14 rfl (by decide) rfl ?_
  refine aw_dn (n := σ.nf) (A := fun j k => ∀ (y3 : Option Value), ∀ (h9 : AH), ∀ (ls : Int32), ∀ (u : Int32), (∀ a c, h a = some c → h9 a = some c) → (h9 q11 = some (tg, oItr (nI k) ls A.mdf A.Lf)) → (u = sumF σ.F σ.di k) → AW p l e _ s m _ below meth c _ s0 G 4 tg _ h9 _ _ 15 [some (.ref mo), some (.int u), some (.ref q11), y3] []) ?_ ?_ σ.nf 0 rfl none _ (-1) 0 (fun a c e => hu_k hq11 e) hu_s rfl
  · intro y3 h9 ls u hx11 hit hI
    have w9 := w0.ext hx11
    obtain ⟨hmo9, ⟨hlp9, hls9, hlf9⟩, ⟨hP9, hS9, hF9⟩, -⟩ := id w9
    refine aw_ald2 X dX7_meanShadow_15 rfl ?_
    refine aw_callF X dX7_meanShadow_16 rfl (k_Jx35411_hasNext_aae02 X.1 hit hlf9.lr rfl (Nat.le_refl _)) cfJx35411_hasNext_aae02 ml_X7_76 rfl hit rfl rfl (Nat.le_of_ble_eq_true rfl) ⟨Nat.le_of_ble_eq_true rfl, Nat.le_of_ble_eq_true rfl⟩ (aw_rs ?_)
    refine aw_if_eq (n2 := 58) X dX7_meanShadow_21 rfl rfl (fun c21 => ?_) (fun c21 => absurd (bI_f (Nat.lt_irrefl _)) c21)
    refine aw_ald0 X dX7_meanShadow_58 rfl ?_
    refine aw_callV X dX7_meanShadow_59 rfl (k_X7_onScreen X.1 htg w9) cmX7_onScreen ml_X7_152 rfl w9.1 rfl rfl (Nat.le_of_ble_eq_true rfl) ⟨Nat.le_of_ble_eq_true rfl, Nat.le_of_ble_eq_true rfl⟩ (fun r hA hq hf => ?_)
    obtain ⟨rfl, hxA⟩ := hq
    have wA := w9.ext hxA
    refine aw_if_ne (n2 := 69) X dX7_meanShadow_62 rfl rfl (fun c62 => ?_) (fun c62 => ?_)
    · refine aw_ild1 X dX7_meanShadow_69 rfl ?_
      refine aw_i2d X dX7_meanShadow_70 rfl ?_
      refine aw_ald0 X dX7_meanShadow_71 rfl ?_
      refine aw_callV X dX7_meanShadow_72 rfl (k_X7_onScreen X.1 htg wA) cmX7_onScreen ml_X7_152 rfl wA.1 rfl rfl (Nat.le_of_ble_eq_true rfl) ⟨Nat.le_of_ble_eq_true rfl, Nat.le_of_ble_eq_true rfl⟩ (fun r hB hq hf => ?_)
      obtain ⟨rfl, hxB⟩ := hq
      have wB := wA.ext hxB
      refine aw_i2d X dX7_meanShadow_75 rfl ?_
      refine aw_ddiv X dX7_meanShadow_76 (dd_ok c62) rfl ?_
      exact aw_dret X hret dX7_meanShadow_77 (⟨by unfold meanS; rw [if_neg c62, hI], wB⟩)
    · refine aw_dconst0 X dX7_meanShadow_65 rfl ?_
      refine aw_goto (n := 77) X dX7_meanShadow_66 rfl ?_
      exact aw_dret X hret dX7_meanShadow_77 (⟨by unfold meanS; rw [if_pos c62], wA⟩)
  · intro j k hjk ih y3 h9 ls u hx11 hit hI
    have w9 := w0.ext hx11
    obtain ⟨hmo9, ⟨hlp9, hls9, hlf9⟩, ⟨hP9, hS9, hF9⟩, -⟩ := id w9
    have hlt : k < σ.nf := by omega
    have hne : A.fa k ≠ q11 := kk_ne (hF9 k hlt).2 hit (show (100 : Nat) ≠ 0 by decide)
    have hrow : hu h9 q11 (tg, oItr (nI (k + 1)) (nI k) A.mdf A.Lf) (A.fa k) = some (tg, oRow 6 (σ.F k)) := (hu_n hne).trans (hF9 k hlt).2
    have hxn : ∀ a c, h a = some c → hu h9 q11 (tg, oItr (nI (k + 1)) (nI k) A.mdf A.Lf) a = some c := fun a c e => (hu_n (nn_ne e hq11)).trans (hx11 a c e)
    refine aw_ald2 X dX7_meanShadow_15 rfl ?_
    refine aw_callF X dX7_meanShadow_16 rfl (k_Jx35411_hasNext_aae02 X.1 hit hlf9.lr rfl (by omega)) cfJx35411_hasNext_aae02 ml_X7_76 rfl hit rfl rfl (Nat.le_of_ble_eq_true rfl) ⟨Nat.le_of_ble_eq_true rfl, Nat.le_of_ble_eq_true rfl⟩ (aw_rs ?_)
    refine aw_if_eq (n2 := 58) X dX7_meanShadow_21 rfl rfl (fun c21 => absurd c21 (by rw [bI_t hlt]; decide)) (fun c21 => ?_)
    refine aw_ald2 X dX7_meanShadow_24 rfl ?_
    refine aw_callF X dX7_meanShadow_25 rfl (k_Jx35411_next_0502b X.1 htg hit hlf9.lr rfl hlt (hF9 k hlt).1) cfJx35411_next_0502b ml_X7_82 rfl hit rfl rfl (Nat.le_of_ble_eq_true rfl) ⟨Nat.le_of_ble_eq_true rfl, Nat.le_of_ble_eq_true rfl⟩ (aw_rs ?_)
    refine aw_castA X dX7_meanShadow_30 rfl (kd := 0) (by decide) cc_X7_52 hrow ?_
    refine aw_ast3 X dX7_meanShadow_33 rfl (by decide) rfl ?_
    refine aw_ild1 X dX7_meanShadow_34 rfl ?_
    refine aw_ald3 X dX7_meanShadow_35 rfl ?_
    refine aw_iconst X (3) dX7_meanShadow_36 (by decide) rfl ?_
    refine aw_iald X (3) dX7_meanShadow_37 rfl hrow rfl (by decide) (by decide) ?_
    refine aw_if_ne (n2 := 45) X dX7_meanShadow_38 rfl rfl (fun c38 => ?_) (fun c38 => ?_)
    · refine aw_ald0 X dX7_meanShadow_45 rfl ?_
      refine aw_ald3 X dX7_meanShadow_46 rfl ?_
      refine aw_ald3 X dX7_meanShadow_47 rfl ?_
      refine aw_iconst X (5) dX7_meanShadow_48 (by decide) rfl ?_
      refine aw_iald X (5) dX7_meanShadow_49 rfl hrow rfl (by decide) (by decide) ?_
      have hl5 := hv.fig5 hlt
      refine aw_callV X dX7_meanShadow_50 rfl (k_X7_shadow X.1 (w0.ext hxn) hrow (σ.F k 5) (hv.gap hl5.1 hl5.2).2) cmX7_shadow ml_X7_148 rfl (w0.ext hxn).1 rfl rfl (Nat.le_of_ble_eq_true rfl) ⟨Nat.le_of_ble_eq_true rfl, Nat.le_of_ble_eq_true rfl⟩ (aw_rs ?_)
      refine aw_iadd X dX7_meanShadow_53 rfl ?_
      refine aw_ist1 X dX7_meanShadow_54 rfl (by decide) rfl ?_
      refine aw_goto (n := 15) X dX7_meanShadow_55 rfl ?_
      exact ih _ _ _ _ hxn hu_s (by rw [hI, shad_at hv hl5.1 hl5.2]; exact (if_pos c38).symm)
    · refine aw_iconst X (0) dX7_meanShadow_41 (by decide) rfl ?_
      refine aw_goto (n := 53) X dX7_meanShadow_42 rfl ?_
      refine aw_iadd X dX7_meanShadow_53 rfl ?_
      refine aw_ist1 X dX7_meanShadow_54 rfl (by decide) rfl ?_
      refine aw_goto (n := 15) X dX7_meanShadow_55 rfl ?_
      exact ih _ _ _ _ hxn hu_s (by rw [hI, Int32.add_zero]; exact (if_neg (fun q => q c38)).symm)

set_option maxHeartbeats 4000000 in
set_option maxRecDepth 100000 in
theorem k_X7_add {l : Launch} {s0 : State} {a0 : Array Value} {G : GG} (X : CX l s0 a0 G) {h : AH} {tg mo : Nat} {A : KA} {t : Int32} {sm : Int64} {σ : NS} (htg : tg ≠ 0) (w : MoW G h tg mo A t sm σ) (v : Int32)  : Con l s0 G yX7_add cX7_add 2 none 0 0 0 tg [.ref mo, .int v] h (RV (hu h mo (tg, cMod t A σ (L31 sm v)))) := by
  refine Con.of X (by decide +kernel) [some (.ref mo), some (.int v)] rfl (Nat.le_of_ble_eq_true rfl) (fun p e s m below meth c X hnm hret => ?_)
  have w0 := w
  obtain ⟨hmo, ⟨hlp, hls, hlf⟩, ⟨hP, hS, hF⟩, ⟨hn8, hn10, hn12⟩, hdd⟩ := id w
  refine aw_ald0 X dX7_add_0 rfl ?_
  refine aw_ald0 X dX7_add_1 rfl ?_
  refine aw_get X fd_X7_239 dX7_add_2 rfl hmo rfl ?_
  refine aw_ldc2 X (31) dX7_add_5 rfl co_X7_243 ?_
  refine aw_lmul X dX7_add_8 rfl ?_
  refine aw_ild1 X dX7_add_9 rfl ?_
  refine aw_i2l X dX7_add_10 rfl ?_
  refine aw_ladd X dX7_add_11 rfl ?_
  refine aw_put X fd_X7_239 fw_X7_18 dX7_add_12 rfl htg hmo rfl rfl (Nat.le_of_ble_eq_true rfl) ?_
  exact aw_vret X hret dX7_add_15 (⟨rfl, rfl⟩)

set_option maxHeartbeats 4000000 in
set_option maxRecDepth 100000 in
theorem k_X7_thrown {l : Launch} {s0 : State} {a0 : Array Value} {G : GG} (X : CX l s0 a0 G) {h : AH} {tg mo : Nat} {A : KA} {t : Int32} {sm : Int64} {σ : NS} (w : MoW G h tg mo A t sm σ)  : Con l s0 G yX7_thrown cX7_thrown 1 (some .int) 0 0 0 tg [.ref mo] h (RS (.int t) h) := by
  refine Con.of X (by decide +kernel) [some (.ref mo)] rfl (Nat.le_of_ble_eq_true rfl) (fun p e s m below meth c X hnm hret => ?_)
  have w0 := w
  obtain ⟨hmo, ⟨hlp, hls, hlf⟩, ⟨hP, hS, hF⟩, ⟨hn8, hn10, hn12⟩, hdd⟩ := id w
  refine aw_ald0 X dX7_thrown_0 rfl ?_
  refine aw_get X fd_X7_35 dX7_thrown_1 rfl hmo rfl ?_
  exact aw_iret X hret rfl dX7_thrown_4 (⟨rfl, rfl⟩)
