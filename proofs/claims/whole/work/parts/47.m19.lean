/-! THE MODEL'S CHECKSUM, ITS START -/
theorem MoW.sum {G : GG} {h : AH} {tg mo : Nat} {A : KA} {t : Int32} {sm : Int64} {σ : NS} (w : MoW G h tg mo A t sm σ) (sm2 : Int64) : MoW G (hu h mo (tg, cMod t A σ sm2)) tg mo A t sm2 σ := w.obj t sm2 σ.v
theorem last_ok {n : Nat} (hn : n ≤ 10) : nI n - 1 = -1 ∨ ∃ j, j < n ∧ nI n - 1 = nI j := by
  by_cases q : n = 0
  · rw [q]; exact Or.inl (by decide)
  · exact Or.inr ⟨n - 1, by omega, pk_sub (a := n) (b := 1) (by omega)⟩
theorem dg_eq {σ : NS} {D1 D2 D3 D4 D5 D6 : Int64} (h1 : D1 = fo (fun q u => L31 u (manS σ (nI q))) 58227 16) (h2 : D2 = pwS σ D1) (h3 : D3 = fwS σ D2) (h4 : D4 = swS2 σ D3) (h5 : D5 = fo (fun q u => L31 u (figAt σ.F σ.nf (nI q))) D4 10) (h6 : D6 = fo (fun q u => L31 u (ovl σ.o (nI q))) D5 4) : dgS σ = L31 (L31 (L31 D6 (ongo σ.o)) (bsS σ)) (gripF (sdS σ) σ.F σ.nf σ.nf) := by
  unfold dgS
  rw [h6, h5, h4, h3, h2, h1]
/-- of the nine numbers of a scene the last three look through the plot -/
def hvy (j : Nat) : Nat := if j ≤ 3 then j else 3

set_option maxHeartbeats 4000000 in
set_option maxRecDepth 100000 in
theorem k_ofS0 {l : Launch} {s0 : State} {a0 : Array Value} {G : GG} (X : CX l s0 a0 G) {h : AH} {tg mo : Nat} {A : KA} {t : Int32} {sm : Int64} {σ : NS} (htg : tg ≠ 0) (w : MoW G h tg mo A t sm σ) (hv : IV σ) {k : Nat} {x : Int32} (hx : x = nI k) (hk : k < σ.ns) {q9 : Nat} {y : Int32} (hq9 : y = nI q9) (h6 : q9 < 6)  : Con l s0 G yX7_ofSceneNow cX7_ofSceneNow 4 (some .int) 6 0 0 tg [.ref mo, .int x, .int y] h (RE (.int (svl (σ.S k) (rX σ.S (cbS σ) (kfS σ.P σ.np) k) y)) h) := by
  refine Con.of X (by decide +kernel) [some (.ref mo), some (.int x), some (.int y), none] rfl (Nat.le_of_ble_eq_true rfl) (fun p e s m below meth c X hnm hret => ?_)
  have w0 := w
  obtain ⟨hmo, ⟨hlp, hls, hlf⟩, ⟨hP, hS, hF⟩, ⟨hn8, hn10, hn12⟩, hdd⟩ := id w
  refine aw_ild2 X dX7_ofSceneNow_0 rfl ?_
  refine aw_bipush X (6) dX7_ofSceneNow_1 (by decide) rfl ?_
  refine aw_icmp_ge (n2 := 20) X dX7_ofSceneNow_3 rfl rfl (fun c3 => absurd c3 (by rw [hq9]; exact fun q => absurd ((nI_leI (a := 6) (by omega) (by omega)).mp q) (by omega))) (fun c3 => ?_)
  refine aw_ald0 X dX7_ofSceneNow_6 rfl ?_
  refine aw_get X fd_X7_19 dX7_ofSceneNow_7 rfl hmo rfl ?_
  refine aw_ild1 X dX7_ofSceneNow_10 rfl ?_
  refine aw_callV X dX7_ofSceneNow_11 rfl (k_lget X.1 hls hx hk (hS k hk).1) cmJx4a65c_get_915e3 ml_X7_48 rfl hls.1 rfl rfl (Nat.le_of_ble_eq_true rfl) ⟨Nat.le_of_ble_eq_true rfl, Nat.le_of_ble_eq_true rfl⟩ (aw_rs ?_)
  refine aw_castA X dX7_ofSceneNow_14 rfl (kd := 0) (by decide) cc_X7_52 (hS k hk).2 ?_
  refine aw_ild2 X dX7_ofSceneNow_17 rfl ?_
  refine aw_iald X (q9) dX7_ofSceneNow_18 rfl (hS k hk).2 hq9 h6 (by decide) ?_
  have h9 : q9 = 0 ∨ q9 = 1 ∨ q9 = 2 ∨ q9 = 3 ∨ q9 = 4 ∨ q9 = 5 := by omega
  exact aw_iret X hret rfl dX7_ofSceneNow_19 (⟨by rw [hq9]; rcases h9 with e | e | e | e | e | e <;> (subst e; rfl), fun a c e => e⟩)

theorem k_ofS {l : Launch} {s0 : State} {a0 : Array Value} {G : GG} (X : CX l s0 a0 G) {h : AH} {tg mo : Nat} {A : KA} {t : Int32} {sm : Int64} {σ : NS} (htg : tg ≠ 0) (w : MoW G h tg mo A t sm σ) (hv : IV σ) {k : Nat} {x : Int32} (hx : x = nI k) (hk : k < σ.ns) {q9 : Nat} {y : Int32} (hq9 : y = nI q9) (hlt9 : q9 < 9) : Con l s0 G yX7_ofSceneNow cX7_ofSceneNow 4 (some .int) 6 (if q9 < 6 then 0 else 11) (if q9 < 6 then 0 else 40) tg [.ref mo, .int x, .int y] h (RE (.int (svl (σ.S k) (rX σ.S (cbS σ) (kfS σ.P σ.np) k) y)) h) := by
  by_cases c : q9 < 6
  · rw [if_pos c, if_pos c]; exact k_ofS0 X htg w hv hx hk hq9 c
  · rw [if_neg c, if_neg c]; exact k_X7_ofSceneNow X htg w hv hx hk hq9 hlt9

set_option maxHeartbeats 4000000 in
set_option maxRecDepth 100000 in
theorem k_X7_digest {l : Launch} {s0 : State} {a0 : Array Value} {G : GG} (X : CX l s0 a0 G) {h : AH} {tg mo : Nat} {A : KA} {t : Int32} {sm : Int64} {σ : NS} (htg : tg ≠ 0) (w : MoW G h tg mo A t sm σ) (hv : IV σ) {t1 : Nat} (h1 : h (G.2.2 1) = some (t1, oArr 0 (fun _ => none)))  : Con l s0 G yX7_digest cX7_digest 3 (some .long) 8 1195 4582 tg [.ref mo] h (fun r h2 => some (.long (dgS σ)) = r ∧ ∃ sm2, MoW G h2 tg mo A 0 sm2 σ) := by
  refine Con.of X (by decide +kernel) [some (.ref mo), none, none] rfl (Nat.le_of_ble_eq_true rfl) (fun p e s m below meth c X hnm hret => ?_)
  have w0 := w
  obtain ⟨hmo, ⟨hlp, hls, hlf⟩, ⟨hP, hS, hF⟩, ⟨hn8, hn10, hn12⟩, hdd⟩ := id w
  refine aw_ald0 X dX7_digest_0 rfl ?_
  refine aw_iconst X (0) dX7_digest_1 (by decide) rfl ?_
  refine aw_put X fd_X7_35 fw_X7_0 dX7_digest_2 rfl htg hmo rfl rfl (Nat.le_of_ble_eq_true rfl) ?_
  refine aw_ald0 X dX7_digest_5 rfl ?_
  refine aw_ldc2 X (58227) dX7_digest_6 rfl co_X7_245 ?_
  refine aw_put X fd_X7_239 fw_X7_18 dX7_digest_9 rfl htg hu_s rfl rfl (Nat.le_of_ble_eq_true rfl) ?_
  refine aw_genP (Pr := fun h3 => MoW G h3 tg mo A 0 58227 σ ∧ h3 (G.2.2 1) = some (t1, oArr 0 (fun _ => none))) ⟨by rw [hu_hu]; exact w0.obj 0 58227 σ.v, by rw [hu_hu]; exact (hu_n (kk_ne h1 hmo (show (103 : Nat) ≠ 9 by decide))).trans h1⟩ (fun hh wz => ?_)
  obtain ⟨w1, hz1⟩ := wz
  clear hmo hlp hls hlf hP hS hF hdd
  obtain ⟨hmo, ⟨hlp, hls, hlf⟩, ⟨hP, hS, hF⟩, -, hdd⟩ := id w1
  refine aw_iconst X (0) dX7_digest_12 (by decide) rfl ?_
  refine aw_ist1 X dX7_digest_13 rfl (by decide) rfl ?_
  refine aw_dn (n := 16) (A := fun j k => ∀ (y2 : Option Value), ∀ (h9 : AH), ∀ (x : Int32), ∀ (dg : Int64), ∀ (b : Nat), ∀ (d : Nat), (MoW G h9 tg mo A 0 dg σ) → (h9 (G.2.2 1) = some (t1, oArr 0 (fun _ => none))) → (x = nI k) → (dg = fo (fun q u => L31 u (manS σ (nI q))) 58227 k) → (15 * j + 955 ≤ b) → (68 * j + 3494 ≤ d) → AW p l e _ s m _ below meth c _ s0 G 3 tg _ h9 b d 14 [some (.ref mo), some (.int x), y2] []) ?_ ?_ 16 0 rfl _ _ 0 58227 1195 4582 w1 hz1 nI_0.symm rfl (by omega) (by omega)
  · intro y2 h9 x dg b d w9 hz9 hx hI hb hd
    clear hmo hlp hls hlf hP hS hF hdd
    obtain ⟨hmo, ⟨hlp, hls, hlf⟩, ⟨hP, hS, hF⟩, -, hdd⟩ := id w9
    obtain ⟨D1, hD1⟩ : ∃ z, z = fo (fun q u => L31 u (manS σ (nI q))) 58227 16 := ⟨_, rfl⟩
    replace hI : dg = D1 := hI.trans hD1.symm
    refine aw_ild1 X dX7_digest_14 rfl ?_
    refine aw_bipush X (16) dX7_digest_15 (by decide) rfl ?_
    refine aw_icmp_ge (n2 := 35) X dX7_digest_17 rfl rfl (fun c17 => ?_) (fun c17 => absurd (by rw [hx]; decide) c17)
    refine aw_iconst X (0) dX7_digest_35 (by decide) rfl ?_
    refine aw_ist1 X dX7_digest_36 rfl (by decide) rfl ?_
    refine aw_dn (n := σ.np) (A := fun j k => ∀ (y2 : Option Value), ∀ (h9 : AH), ∀ (x : Int32), ∀ (dg : Int64), ∀ (b : Nat), ∀ (d : Nat), (MoW G h9 tg mo A 0 dg σ) → (h9 (G.2.2 1) = some (t1, oArr 0 (fun _ => none))) → (x = nI k) → (dg = fo (fun k u => L31 u (bI (holdsP (knS σ (nI σ.ns - 1)) (nI k)))) D1 k) → (11 * j + 867 ≤ b) → (40 * j + 3174 ≤ d) → AW p l e _ s m _ below meth c _ s0 G 3 tg _ h9 b d 37 [some (.ref mo), some (.int x), y2] []) ?_ ?_ σ.np 0 rfl _ _ 0 dg b d w9 hz9 nI_0.symm hI (by omega) (by omega)
    · intro y2 h9 x dg b d w9 hz9 hx hI hb hd
      clear hmo hlp hls hlf hP hS hF hdd
      obtain ⟨hmo, ⟨hlp, hls, hlf⟩, ⟨hP, hS, hF⟩, -, hdd⟩ := id w9
      obtain ⟨D2, hD2⟩ : ∃ z, z = pwS σ D1 := ⟨_, rfl⟩
      replace hI : dg = D2 := hI.trans hD2.symm
      refine aw_ild1 X dX7_digest_37 rfl ?_
      refine aw_ald0 X dX7_digest_38 rfl ?_
      refine aw_get X fd_X7_10 dX7_digest_39 rfl hmo rfl ?_
      refine aw_callV X dX7_digest_42 rfl (k_size X.1 hlp) cmJx4a65c_size_8abf5 ml_X7_38 rfl hlp.1 rfl rfl (Nat.le_of_ble_eq_true rfl) ⟨Nat.le_of_ble_eq_true rfl, Nat.le_of_ble_eq_true rfl⟩ (aw_rs ?_)
      refine aw_icmp_ge (n2 := 80) X dX7_digest_45 rfl rfl (fun c45 => ?_) (fun c45 => absurd (ge_t hx (Nat.le_refl _) (by omega)) c45)
      refine aw_iconst X (0) dX7_digest_80 (by decide) rfl ?_
      refine aw_ist1 X dX7_digest_81 rfl (by decide) rfl ?_
      refine aw_dn (n := σ.nf) (A := fun j k => ∀ (y2 : Option Value), ∀ (h9 : AH), ∀ (x : Int32), ∀ (dg : Int64), ∀ (b : Nat), ∀ (d : Nat), (MoW G h9 tg mo A 0 dg σ) → (h9 (G.2.2 1) = some (t1, oArr 0 (fun _ => none))) → (x = nI k) → (dg = fwS2 σ D2 k) → (0 * j + 867 ≤ b) → (0 * j + 3174 ≤ d) → AW p l e _ s m _ below meth c _ s0 G 3 tg _ h9 b d 82 [some (.ref mo), some (.int x), y2] []) ?_ ?_ σ.nf 0 rfl _ _ 0 dg b d w9 hz9 nI_0.symm hI (by omega) (by omega)
      · intro y2 h9 x dg b d w9 hz9 hx hI hb hd
        clear hmo hlp hls hlf hP hS hF hdd
        obtain ⟨hmo, ⟨hlp, hls, hlf⟩, ⟨hP, hS, hF⟩, -, hdd⟩ := id w9
        obtain ⟨D3, hD3⟩ : ∃ z, z = fwS σ D2 := ⟨_, rfl⟩
        replace hI : dg = D3 := hI.trans hD3.symm
        refine aw_ild1 X dX7_digest_82 rfl ?_
        refine aw_ald0 X dX7_digest_83 rfl ?_
        refine aw_get X fd_X7_16 dX7_digest_84 rfl hmo rfl ?_
        refine aw_callV X dX7_digest_87 rfl (k_size X.1 hlf) cmJx4a65c_size_8abf5 ml_X7_38 rfl hlf.1 rfl rfl (Nat.le_of_ble_eq_true rfl) ⟨Nat.le_of_ble_eq_true rfl, Nat.le_of_ble_eq_true rfl⟩ (aw_rs ?_)
        refine aw_icmp_ge (n2 := 134) X dX7_digest_90 rfl rfl (fun c90 => ?_) (fun c90 => absurd (ge_t hx (Nat.le_refl _) (by omega)) c90)
        refine aw_iconst X (0) dX7_digest_134 (by decide) rfl ?_
        refine aw_ist1 X dX7_digest_135 rfl (by decide) rfl ?_
        refine aw_dn (n := σ.ns) (A := fun j k => ∀ (y2 : Option Value), ∀ (h9 : AH), ∀ (x : Int32), ∀ (dg : Int64), ∀ (b : Nat), ∀ (d : Nat), (MoW G h9 tg mo A 0 dg σ) → (h9 (G.2.2 1) = some (t1, oArr 0 (fun _ => none))) → (x = nI k) → (dg = swS3 σ D3 k) → (33 * j + 537 ≤ b) → (120 * j + 1974 ≤ d) → AW p l e _ s m _ below meth c _ s0 G 3 tg _ h9 b d 136 [some (.ref mo), some (.int x), y2] []) ?_ ?_ σ.ns 0 rfl _ _ 0 dg b d w9 hz9 nI_0.symm hI (by omega) (by omega)
        · intro y2 h9 x dg b d w9 hz9 hx hI hb hd
          clear hmo hlp hls hlf hP hS hF hdd
          obtain ⟨hmo, ⟨hlp, hls, hlf⟩, ⟨hP, hS, hF⟩, -, hdd⟩ := id w9
          obtain ⟨D4, hD4⟩ : ∃ z, z = swS2 σ D3 := ⟨_, rfl⟩
          replace hI : dg = D4 := hI.trans hD4.symm
          refine aw_ild1 X dX7_digest_136 rfl ?_
          refine aw_ald0 X dX7_digest_137 rfl ?_
          refine aw_get X fd_X7_19 dX7_digest_138 rfl hmo rfl ?_
          refine aw_callV X dX7_digest_141 rfl (k_size X.1 hls) cmJx4a65c_size_8abf5 ml_X7_38 rfl hls.1 rfl rfl (Nat.le_of_ble_eq_true rfl) ⟨Nat.le_of_ble_eq_true rfl, Nat.le_of_ble_eq_true rfl⟩ (aw_rs ?_)
          refine aw_icmp_ge (n2 := 177) X dX7_digest_144 rfl rfl (fun c144 => ?_) (fun c144 => absurd (ge_t hx (Nat.le_refl _) (by omega)) c144)
          refine aw_iconst X (0) dX7_digest_177 (by decide) rfl ?_
          refine aw_ist1 X dX7_digest_178 rfl (by decide) rfl ?_
          refine aw_dn (n := 10) (A := fun j k => ∀ (y2 : Option Value), ∀ (h9 : AH), ∀ (x : Int32), ∀ (dg : Int64), ∀ (b : Nat), ∀ (d : Nat), (MoW G h9 tg mo A 0 dg σ) → (h9 (G.2.2 1) = some (t1, oArr 0 (fun _ => none))) → (x = nI k) → (dg = fo (fun q u => L31 u (figAt σ.F σ.nf (nI q))) D4 k) → (0 * j + 537 ≤ b) → (0 * j + 1974 ≤ d) → AW p l e _ s m _ below meth c _ s0 G 3 tg _ h9 b d 179 [some (.ref mo), some (.int x), y2] []) ?_ ?_ 10 0 rfl _ _ 0 dg b d w9 hz9 nI_0.symm hI (by omega) (by omega)
          · intro y2 h9 x dg b d w9 hz9 hx hI hb hd
            clear hmo hlp hls hlf hP hS hF hdd
            obtain ⟨hmo, ⟨hlp, hls, hlf⟩, ⟨hP, hS, hF⟩, -, hdd⟩ := id w9
            obtain ⟨D5, hD5⟩ : ∃ z, z = fo (fun q u => L31 u (figAt σ.F σ.nf (nI q))) D4 10 := ⟨_, rfl⟩
            replace hI : dg = D5 := hI.trans hD5.symm
            refine aw_ild1 X dX7_digest_179 rfl ?_
            refine aw_bipush X (10) dX7_digest_180 (by decide) rfl ?_
            refine aw_icmp_ge (n2 := 201) X dX7_digest_182 rfl rfl (fun c182 => ?_) (fun c182 => absurd (by rw [hx]; decide) c182)
            refine aw_iconst X (0) dX7_digest_201 (by decide) rfl ?_
            refine aw_ist1 X dX7_digest_202 rfl (by decide) rfl ?_
            refine aw_dn (n := 4) (A := fun j k => ∀ (y2 : Option Value), ∀ (h9 : AH), ∀ (x : Int32), ∀ (dg : Int64), ∀ (b : Nat), ∀ (d : Nat), (MoW G h9 tg mo A 0 dg σ) → (h9 (G.2.2 1) = some (t1, oArr 0 (fun _ => none))) → (x = nI k) → (dg = fo (fun q u => L31 u (ovl σ.o (nI q))) D5 k) → (1 * j + 533 ≤ b) → (4 * j + 1958 ≤ d) → AW p l e _ s m _ below meth c _ s0 G 3 tg _ h9 b d 203 [some (.ref mo), some (.int x), y2] []) ?_ ?_ 4 0 rfl _ _ 0 dg b d w9 hz9 nI_0.symm hI (by omega) (by omega)
            · intro y2 h9 x dg b d w9 hz9 hx hI hb hd
              clear hmo hlp hls hlf hP hS hF hdd
              obtain ⟨hmo, ⟨hlp, hls, hlf⟩, ⟨hP, hS, hF⟩, -, hdd⟩ := id w9
              obtain ⟨D6, hD6⟩ : ∃ z, z = fo (fun q u => L31 u (ovl σ.o (nI q))) D5 4 := ⟨_, rfl⟩
              replace hI : dg = D6 := hI.trans hD6.symm
              refine aw_ild1 X dX7_digest_203 rfl ?_
              refine aw_iconst X (4) dX7_digest_204 (by decide) rfl ?_
              refine aw_icmp_ge (n2 := 223) X dX7_digest_205 rfl rfl (fun c205 => ?_) (fun c205 => absurd (by rw [hx]; decide) c205)
              refine aw_ald0 X dX7_digest_223 rfl ?_
              refine aw_ald0 X dX7_digest_224 rfl ?_
              obtain ⟨b2, rfl⟩ : ∃ b2, b = b2 + 1 := ⟨b - 1, by omega⟩
              obtain ⟨d2, rfl⟩ : ∃ d2, d = d2 + 4 := ⟨d - 4, by omega⟩
              refine aw_callV X dX7_digest_225 rfl (k_X7_gongNow X.1 htg w9 hv) cmX7_gongNow ml_X7_224 rfl hmo rfl rfl (Nat.le_of_ble_eq_true rfl) ⟨Nat.le_of_ble_eq_true rfl, Nat.le_of_ble_eq_true rfl⟩ (fun r hA hq hf => ?_)
              obtain ⟨rfl, hxA⟩ := hq
              have wA := w9.ext hxA
              refine aw_callV X dX7_digest_228 rfl (k_X7_add X.1 htg wA _) cmX7_add ml_X7_247 rfl wA.1 rfl rfl (Nat.le_of_ble_eq_true rfl) ⟨Nat.le_of_ble_eq_true rfl, Nat.le_of_ble_eq_true rfl⟩ (aw_rv ?_)
              refine aw_genP (Pr := fun h3 => MoW G h3 tg mo A 0 (L31 dg (ongo σ.o)) σ ∧ h3 (G.2.2 1) = some (t1, oArr 0 (fun _ => none))) ⟨wA.sum _, (hu_n (kk_ne (hxA _ _ hz9) wA.1 (show (103 : Nat) ≠ 9 by decide))).trans (hxA _ _ hz9)⟩ (fun hB wz => ?_)
              obtain ⟨wB, hzB⟩ := wz
              refine aw_ald0 X dX7_digest_231 rfl ?_
              refine aw_ald0 X dX7_digest_232 rfl ?_
              obtain ⟨b3, rfl⟩ : ∃ b3, b2 = b3 + 508 := ⟨b2 - 508, by omega⟩
              obtain ⟨d3, rfl⟩ : ∃ d3, d2 = d3 + 1858 := ⟨d2 - 1858, by omega⟩
              refine aw_callV X dX7_digest_233 rfl (k_X7_swapNow X.1 htg wB hv hzB) cmX7_swapNow ml_X7_230 rfl wB.1 rfl rfl (Nat.le_of_ble_eq_true rfl) ⟨Nat.le_of_ble_eq_true rfl, Nat.le_of_ble_eq_true rfl⟩ (fun r hC hq hf => ?_)
              obtain ⟨rfl, hxC⟩ := hq
              have wC := wB.ext hxC
              refine aw_callV X dX7_digest_236 rfl (k_X7_add X.1 htg wC _) cmX7_add ml_X7_247 rfl wC.1 rfl rfl (Nat.le_of_ble_eq_true rfl) ⟨Nat.le_of_ble_eq_true rfl, Nat.le_of_ble_eq_true rfl⟩ (aw_rv ?_)
              refine aw_genP (Pr := fun h3 => MoW G h3 tg mo A 0 (L31 (L31 dg (ongo σ.o)) (bsS σ)) σ) (wC.sum _) (fun hD wD => ?_)
              refine aw_ald0 X dX7_digest_239 rfl ?_
              refine aw_ald0 X dX7_digest_240 rfl ?_
              obtain ⟨b4, rfl⟩ : ∃ b4, b3 = b4 + 24 := ⟨b3 - 24, by omega⟩
              obtain ⟨d4, rfl⟩ : ∃ d4, d3 = d4 + 96 := ⟨d3 - 96, by omega⟩
              refine aw_callV X dX7_digest_241 rfl (k_X7_gripNow X.1 htg wD hv) cmX7_gripNow ml_X7_236 rfl wD.1 rfl rfl (Nat.le_of_ble_eq_true rfl) ⟨Nat.le_of_ble_eq_true rfl, Nat.le_of_ble_eq_true rfl⟩ (fun r hE hq hf => ?_)
              obtain ⟨rfl, hxE⟩ := hq
              have wE := wD.ext hxE
              refine aw_callV X dX7_digest_244 rfl (k_X7_add X.1 htg wE _) cmX7_add ml_X7_247 rfl wE.1 rfl rfl (Nat.le_of_ble_eq_true rfl) ⟨Nat.le_of_ble_eq_true rfl, Nat.le_of_ble_eq_true rfl⟩ (aw_rv ?_)
              refine aw_genP (Pr := fun h3 => MoW G h3 tg mo A 0 (L31 (L31 (L31 dg (ongo σ.o)) (bsS σ)) (gripF (sdS σ) σ.F σ.nf σ.nf)) σ) (wE.sum _) (fun hF wF => ?_)
              refine aw_ald0 X dX7_digest_247 rfl ?_
              refine aw_get X fd_X7_239 dX7_digest_248 rfl wF.1 rfl ?_
              exact aw_lret X hret dX7_digest_251 (⟨by rw [hI]; exact congrArg (fun v => some (Value.long v)) (dg_eq hD1 hD2 hD3 hD4 hD5 hD6), _, wF⟩)
            · intro j k hjk ih y2 h9 x dg b d w9 hz9 hx hI hb hd
              clear hmo hlp hls hlf hP hS hF hdd
              obtain ⟨hmo, ⟨hlp, hls, hlf⟩, ⟨hP, hS, hF⟩, -, hdd⟩ := id w9
              refine aw_ild1 X dX7_digest_203 rfl ?_
              refine aw_iconst X (4) dX7_digest_204 (by decide) rfl ?_
              refine aw_icmp_ge (n2 := 223) X dX7_digest_205 rfl rfl (fun c205 => absurd c205 (by rw [hx]; exact (show ¬ nI 4 ≤ nI k from nI_ge (by omega) (by decide)))) (fun c205 => ?_)
              refine aw_ald0 X dX7_digest_208 rfl ?_
              refine aw_ald0 X dX7_digest_209 rfl ?_
              refine aw_ild1 X dX7_digest_210 rfl ?_
              obtain ⟨b2, rfl⟩ : ∃ b2, b = b2 + 1 := ⟨b - 1, by omega⟩
              obtain ⟨d2, rfl⟩ : ∃ d2, d = d2 + 4 := ⟨d - 4, by omega⟩
              refine aw_callV X dX7_digest_211 rfl (k_X7_soundNow X.1 htg w9 (q9 := k) hx (by omega)) cmX7_soundNow ml_X7_215 rfl hmo rfl rfl (Nat.le_of_ble_eq_true rfl) ⟨Nat.le_of_ble_eq_true rfl, Nat.le_of_ble_eq_true rfl⟩ (fun r hA hq hf => ?_)
              obtain ⟨rfl, hxA⟩ := hq
              have wA := w9.ext hxA
              refine aw_callV X dX7_digest_214 rfl (k_X7_add X.1 htg wA _) cmX7_add ml_X7_247 rfl wA.1 rfl rfl (Nat.le_of_ble_eq_true rfl) ⟨Nat.le_of_ble_eq_true rfl, Nat.le_of_ble_eq_true rfl⟩ (aw_rv ?_)
              refine aw_iinc1 X (1) dX7_digest_217 (by decide) rfl (by decide) rfl ?_
              refine aw_goto (n := 203) X dX7_digest_220 rfl ?_
              exact ih _ _ (x + 1) _ b2 d2 (wA.sum (L31 dg _)) ((hu_n (kk_ne (hxA _ _ hz9) wA.1 (show (103 : Nat) ≠ 9 by decide))).trans (hxA _ _ hz9)) (nx hx) (by rw [hI, hx]; rfl) (by omega) (by omega)
          · intro j k hjk ih y2 h9 x dg b d w9 hz9 hx hI hb hd
            clear hmo hlp hls hlf hP hS hF hdd
            obtain ⟨hmo, ⟨hlp, hls, hlf⟩, ⟨hP, hS, hF⟩, -, hdd⟩ := id w9
            refine aw_ild1 X dX7_digest_179 rfl ?_
            refine aw_bipush X (10) dX7_digest_180 (by decide) rfl ?_
            refine aw_icmp_ge (n2 := 201) X dX7_digest_182 rfl rfl (fun c182 => absurd c182 (by rw [hx]; exact (show ¬ nI 10 ≤ nI k from nI_ge (by omega) (by decide)))) (fun c182 => ?_)
            refine aw_ald0 X dX7_digest_185 rfl ?_
            refine aw_ald0 X dX7_digest_186 rfl ?_
            refine aw_ild1 X dX7_digest_187 rfl ?_
            refine aw_iconst X (-1) dX7_digest_188 (by decide) rfl ?_
            refine aw_callV X dX7_digest_189 rfl (k_X7_at X.1 w9 x) cmX7_at ml_X7_126 rfl hmo rfl rfl (Nat.le_of_ble_eq_true rfl) ⟨Nat.le_of_ble_eq_true rfl, Nat.le_of_ble_eq_true rfl⟩ (aw_rs ?_)
            rw [hv.at (show 0 ≤ x by rw [hx]; exact nI_0le k (by omega))]
            refine aw_callV X dX7_digest_192 rfl (k_X7_add X.1 htg w9 _) cmX7_add ml_X7_247 rfl w9.1 rfl rfl (Nat.le_of_ble_eq_true rfl) ⟨Nat.le_of_ble_eq_true rfl, Nat.le_of_ble_eq_true rfl⟩ (aw_rv ?_)
            refine aw_iinc1 X (1) dX7_digest_195 (by decide) rfl (by decide) rfl ?_
            refine aw_goto (n := 179) X dX7_digest_198 rfl ?_
            exact ih _ _ (x + 1) _ b d (w9.sum (L31 dg _)) ((hu_n (kk_ne hz9 w9.1 (show (103 : Nat) ≠ 9 by decide))).trans hz9) (nx hx) (by rw [hI, hx]; rfl) (by omega) (by omega)
        · intro j k hjk ih y2 h9 x dg b d w9 hz9 hx hI hb hd
          clear hmo hlp hls hlf hP hS hF hdd
          obtain ⟨hmo, ⟨hlp, hls, hlf⟩, ⟨hP, hS, hF⟩, -, hdd⟩ := id w9
          refine aw_ild1 X dX7_digest_136 rfl ?_
          refine aw_ald0 X dX7_digest_137 rfl ?_
          refine aw_get X fd_X7_19 dX7_digest_138 rfl hmo rfl ?_
          refine aw_callV X dX7_digest_141 rfl (k_size X.1 hls) cmJx4a65c_size_8abf5 ml_X7_38 rfl hls.1 rfl rfl (Nat.le_of_ble_eq_true rfl) ⟨Nat.le_of_ble_eq_true rfl, Nat.le_of_ble_eq_true rfl⟩ (aw_rs ?_)
          refine aw_icmp_ge (n2 := 177) X dX7_digest_144 rfl rfl (fun c144 => absurd c144 (ge_f hx (by omega) (by omega))) (fun c144 => ?_)
          refine aw_iconst X (0) dX7_digest_147 (by decide) rfl ?_
          refine aw_ist2 X dX7_digest_148 rfl (by decide) rfl ?_
          refine aw_dn (n := 9) (A := fun j2 t => ∀ (h8 : AH), ∀ (x2 : Int32), ∀ (dg2 : Int64), ∀ (b3 : Nat), ∀ (d3 : Nat), (MoW G h8 tg mo A 0 dg2 σ) → (h8 (G.2.2 1) = some (t1, oArr 0 (fun _ => none))) → (x2 = nI t) → (dg2 = fo (fun q u => L31 u (svl (σ.S k) (rX σ.S (cbS σ) (kfS σ.P σ.np) k) (nI q))) dg t) → (11 * hvy j2 + 33 * j + 537 ≤ b3) → (40 * hvy j2 + 120 * j + 1974 ≤ d3) → AW p l e _ s m _ below meth c _ s0 G 3 tg _ h8 b3 d3 149 [some (.ref mo), some (.int x), some (.int x2)] []) ?_ ?_ 9 0 rfl _ 0 dg b d w9 hz9 nI_0.symm rfl (by have : hvy 9 = 3 := rfl; omega) (by have : hvy 9 = 3 := rfl; omega)
          · intro h8 x2 dg2 b3 d3 w9 hz9 hx2 hI2 hb3 hd3
            clear hmo hlp hls hlf hP hS hF hdd
            obtain ⟨hmo, ⟨hlp, hls, hlf⟩, ⟨hP, hS, hF⟩, -, hdd⟩ := id w9
            refine aw_ild2 X dX7_digest_149 rfl ?_
            refine aw_bipush X (9) dX7_digest_150 (by decide) rfl ?_
            refine aw_icmp_ge (n2 := 171) X dX7_digest_152 rfl rfl (fun c152 => ?_) (fun c152 => absurd (by rw [hx2]; decide) c152)
            refine aw_iinc1 X (1) dX7_digest_171 (by decide) rfl (by decide) rfl ?_
            refine aw_goto (n := 136) X dX7_digest_174 rfl ?_
            exact ih _ _ (x + 1) _ b3 d3 w9 hz9 (nx hx) (by rw [hI2, hI]; rfl) (by omega) (by omega)
          · intro j2 t hjt ih2 h8 x2 dg2 b3 d3 w9 hz9 hx2 hI2 hb3 hd3
            clear hmo hlp hls hlf hP hS hF hdd
            obtain ⟨hmo, ⟨hlp, hls, hlf⟩, ⟨hP, hS, hF⟩, -, hdd⟩ := id w9
            refine aw_ild2 X dX7_digest_149 rfl ?_
            refine aw_bipush X (9) dX7_digest_150 (by decide) rfl ?_
            refine aw_icmp_ge (n2 := 171) X dX7_digest_152 rfl rfl (fun c152 => absurd c152 (by rw [hx2]; exact (show ¬ nI 9 ≤ nI t from nI_ge (by omega) (by decide)))) (fun c152 => ?_)
            refine aw_ald0 X dX7_digest_155 rfl ?_
            refine aw_ald0 X dX7_digest_156 rfl ?_
            refine aw_ild1 X dX7_digest_157 rfl ?_
            refine aw_ild2 X dX7_digest_158 rfl ?_
            obtain ⟨b4, hb4⟩ : ∃ b4, b4 = b3 - (if t < 6 then 0 else 11) := ⟨_, rfl⟩
            obtain ⟨d4, hd4⟩ : ∃ d4, d4 = d3 - (if t < 6 then 0 else 40) := ⟨_, rfl⟩
            have hv1 : 11 * hvy (j2 + 1) = 11 * hvy j2 + (if t < 6 then 0 else 11) ∧ 40 * hvy (j2 + 1) = 40 * hvy j2 + (if t < 6 then 0 else 40) := by
              unfold hvy
              split <;> split <;> split <;> omega
            refine AW.mono (bc2 := b4 + (if t < 6 then 0 else 11)) (bs2 := d4 + (if t < 6 then 0 else 40)) (by omega) (by omega) ?_
            refine aw_callV X dX7_digest_159 rfl (k_ofS X.1 htg w9 hv hx (show k < σ.ns by omega) (q9 := t) hx2 (by omega)) cmX7_ofSceneNow ml_X7_212 rfl hmo rfl rfl (Nat.le_of_ble_eq_true rfl) ⟨Nat.le_of_ble_eq_true rfl, Nat.le_of_ble_eq_true rfl⟩ (fun r hA hq hf => ?_)
            obtain ⟨rfl, hxA⟩ := hq
            have wA := w9.ext hxA
            refine aw_callV X dX7_digest_162 rfl (k_X7_add X.1 htg wA _) cmX7_add ml_X7_247 rfl wA.1 rfl rfl (Nat.le_of_ble_eq_true rfl) ⟨Nat.le_of_ble_eq_true rfl, Nat.le_of_ble_eq_true rfl⟩ (aw_rv ?_)
            refine aw_iinc2 X (1) dX7_digest_165 (by decide) rfl (by decide) rfl ?_
            refine aw_goto (n := 149) X dX7_digest_168 rfl ?_
            exact ih2 _ (x2 + 1) _ b4 d4 (wA.sum (L31 dg2 _)) ((hu_n (kk_ne (hxA _ _ hz9) wA.1 (show (103 : Nat) ≠ 9 by decide))).trans (hxA _ _ hz9)) (nx hx2) (by rw [hI2, hx2]; rfl) (by omega) (by omega)
      · intro j k hjk ih y2 h9 x dg b d w9 hz9 hx hI hb hd
        clear hmo hlp hls hlf hP hS hF hdd
        obtain ⟨hmo, ⟨hlp, hls, hlf⟩, ⟨hP, hS, hF⟩, -, hdd⟩ := id w9
        refine aw_ild1 X dX7_digest_82 rfl ?_
        refine aw_ald0 X dX7_digest_83 rfl ?_
        refine aw_get X fd_X7_16 dX7_digest_84 rfl hmo rfl ?_
        refine aw_callV X dX7_digest_87 rfl (k_size X.1 hlf) cmJx4a65c_size_8abf5 ml_X7_38 rfl hlf.1 rfl rfl (Nat.le_of_ble_eq_true rfl) ⟨Nat.le_of_ble_eq_true rfl, Nat.le_of_ble_eq_true rfl⟩ (aw_rs ?_)
        refine aw_icmp_ge (n2 := 134) X dX7_digest_90 rfl rfl (fun c90 => absurd c90 (ge_f hx (by omega) (by omega))) (fun c90 => ?_)
        refine aw_iconst X (0) dX7_digest_93 (by decide) rfl ?_
        refine aw_ist2 X dX7_digest_94 rfl (by decide) rfl ?_
        refine aw_dn (n := 8) (A := fun j2 t => ∀ (h8 : AH), ∀ (x2 : Int32), ∀ (dg2 : Int64), (MoW G h8 tg mo A 0 dg2 σ) → (h8 (G.2.2 1) = some (t1, oArr 0 (fun _ => none))) → (x2 = nI t) → (dg2 = fo (fun q u => L31 u (fvl (σ.F k) σ.di σ.sw (nI q))) dg t) → AW p l e _ s m _ below meth c _ s0 G 3 tg _ h8 b d 95 [some (.ref mo), some (.int x), some (.int x2)] []) ?_ ?_ 8 0 rfl _ 0 dg w9 hz9 nI_0.symm rfl
        · intro h8 x2 dg2 w9 hz9 hx2 hI2
          clear hmo hlp hls hlf hP hS hF hdd
          obtain ⟨hmo, ⟨hlp, hls, hlf⟩, ⟨hP, hS, hF⟩, -, hdd⟩ := id w9
          refine aw_ild2 X dX7_digest_95 rfl ?_
          refine aw_bipush X (8) dX7_digest_96 (by decide) rfl ?_
          refine aw_icmp_ge (n2 := 117) X dX7_digest_98 rfl rfl (fun c98 => ?_) (fun c98 => absurd (by rw [hx2]; decide) c98)
          refine aw_ald0 X dX7_digest_117 rfl ?_
          refine aw_ald0 X dX7_digest_118 rfl ?_
          refine aw_ild1 X dX7_digest_119 rfl ?_
          refine aw_bipush X (60) dX7_digest_120 (by decide) rfl ?_
          refine aw_callV X dX7_digest_122 rfl (k_X7_liftNow X.1 w9 hv hx (show k < σ.nf by omega) 60) cmX7_liftNow ml_X7_233 rfl hmo rfl rfl (Nat.le_of_ble_eq_true rfl) ⟨Nat.le_of_ble_eq_true rfl, Nat.le_of_ble_eq_true rfl⟩ (aw_rs ?_)
          refine aw_callV X dX7_digest_125 rfl (k_X7_add X.1 htg w9 _) cmX7_add ml_X7_247 rfl w9.1 rfl rfl (Nat.le_of_ble_eq_true rfl) ⟨Nat.le_of_ble_eq_true rfl, Nat.le_of_ble_eq_true rfl⟩ (aw_rv ?_)
          refine aw_iinc1 X (1) dX7_digest_128 (by decide) rfl (by decide) rfl ?_
          refine aw_goto (n := 82) X dX7_digest_131 rfl ?_
          exact ih _ _ (x + 1) _ b d (w9.sum (L31 dg2 _)) ((hu_n (kk_ne hz9 w9.1 (show (103 : Nat) ≠ 9 by decide))).trans hz9) (nx hx) (by rw [hI2, hI]; rfl) (by omega) (by omega)
        · intro j2 t hjt ih2 h8 x2 dg2 w9 hz9 hx2 hI2
          clear hmo hlp hls hlf hP hS hF hdd
          obtain ⟨hmo, ⟨hlp, hls, hlf⟩, ⟨hP, hS, hF⟩, -, hdd⟩ := id w9
          refine aw_ild2 X dX7_digest_95 rfl ?_
          refine aw_bipush X (8) dX7_digest_96 (by decide) rfl ?_
          refine aw_icmp_ge (n2 := 117) X dX7_digest_98 rfl rfl (fun c98 => absurd c98 (by rw [hx2]; exact (show ¬ nI 8 ≤ nI t from nI_ge (by omega) (by decide)))) (fun c98 => ?_)
          refine aw_ald0 X dX7_digest_101 rfl ?_
          refine aw_ald0 X dX7_digest_102 rfl ?_
          refine aw_ild1 X dX7_digest_103 rfl ?_
          refine aw_ild2 X dX7_digest_104 rfl ?_
          refine aw_callV X dX7_digest_105 rfl (k_X7_ofFigureNow X.1 w9 hv hx (show k < σ.nf by omega) (q9 := t) hx2 (by omega)) cmX7_ofFigureNow ml_X7_209 rfl hmo rfl rfl (Nat.le_of_ble_eq_true rfl) ⟨Nat.le_of_ble_eq_true rfl, Nat.le_of_ble_eq_true rfl⟩ (aw_rs ?_)
          refine aw_callV X dX7_digest_108 rfl (k_X7_add X.1 htg w9 _) cmX7_add ml_X7_247 rfl w9.1 rfl rfl (Nat.le_of_ble_eq_true rfl) ⟨Nat.le_of_ble_eq_true rfl, Nat.le_of_ble_eq_true rfl⟩ (aw_rv ?_)
          refine aw_iinc2 X (1) dX7_digest_111 (by decide) rfl (by decide) rfl ?_
          refine aw_goto (n := 95) X dX7_digest_114 rfl ?_
          exact ih2 _ (x2 + 1) _ (w9.sum (L31 dg2 _)) ((hu_n (kk_ne hz9 w9.1 (show (103 : Nat) ≠ 9 by decide))).trans hz9) (nx hx2) (by rw [hI2, hx2]; rfl)
    · intro j k hjk ih y2 h9 x dg b d w9 hz9 hx hI hb hd
      clear hmo hlp hls hlf hP hS hF hdd
      obtain ⟨hmo, ⟨hlp, hls, hlf⟩, ⟨hP, hS, hF⟩, -, hdd⟩ := id w9
      refine aw_ild1 X dX7_digest_37 rfl ?_
      refine aw_ald0 X dX7_digest_38 rfl ?_
      refine aw_get X fd_X7_10 dX7_digest_39 rfl hmo rfl ?_
      refine aw_callV X dX7_digest_42 rfl (k_size X.1 hlp) cmJx4a65c_size_8abf5 ml_X7_38 rfl hlp.1 rfl rfl (Nat.le_of_ble_eq_true rfl) ⟨Nat.le_of_ble_eq_true rfl, Nat.le_of_ble_eq_true rfl⟩ (aw_rs ?_)
      refine aw_icmp_ge (n2 := 80) X dX7_digest_45 rfl rfl (fun c45 => absurd c45 (ge_f hx (by omega) (by omega))) (fun c45 => ?_)
      refine aw_ald0 X dX7_digest_48 rfl ?_
      refine aw_ald0 X dX7_digest_49 rfl ?_
      refine aw_ild1 X dX7_digest_50 rfl ?_
      refine aw_ald0 X dX7_digest_51 rfl ?_
      refine aw_get X fd_X7_19 dX7_digest_52 rfl hmo rfl ?_
      refine aw_callV X dX7_digest_55 rfl (k_size X.1 hls) cmJx4a65c_size_8abf5 ml_X7_38 rfl hls.1 rfl rfl (Nat.le_of_ble_eq_true rfl) ⟨Nat.le_of_ble_eq_true rfl, Nat.le_of_ble_eq_true rfl⟩ (aw_rs ?_)
      refine aw_iconst X (1) dX7_digest_58 (by decide) rfl ?_
      refine aw_isub X dX7_digest_59 rfl ?_
      obtain ⟨b2, rfl⟩ : ∃ b2, b = b2 + 11 := ⟨b - 11, by omega⟩
      obtain ⟨d2, rfl⟩ : ∃ d2, d = d2 + 40 := ⟨d - 40, by omega⟩
      refine aw_callV X dX7_digest_60 rfl (k_X7_knowsBehind X.1 htg w9 hv hx (show k < σ.np by omega) (y := nI σ.ns - 1) (last_ok hn10)) cmX7_knowsBehind ml_X7_206 rfl hmo rfl rfl (Nat.le_of_ble_eq_true rfl) ⟨Nat.le_of_ble_eq_true rfl, Nat.le_of_ble_eq_true rfl⟩ (fun r hA hq hf => ?_)
      obtain ⟨rfl, hxA⟩ := hq
      have wA := w9.ext hxA
      refine aw_if_eq (n2 := 70) X dX7_digest_63 rfl rfl (fun c63 => ?_) (fun c63 => ?_)
      · refine aw_iconst X (0) dX7_digest_70 (by decide) rfl ?_
        refine aw_callV X dX7_digest_71 rfl (k_X7_add X.1 htg wA _) cmX7_add ml_X7_247 rfl wA.1 rfl rfl (Nat.le_of_ble_eq_true rfl) ⟨Nat.le_of_ble_eq_true rfl, Nat.le_of_ble_eq_true rfl⟩ (aw_rv ?_)
        refine aw_iinc1 X (1) dX7_digest_74 (by decide) rfl (by decide) rfl ?_
        refine aw_goto (n := 37) X dX7_digest_77 rfl ?_
        exact ih _ _ (x + 1) _ b2 d2 (wA.sum (L31 dg _)) ((hu_n (kk_ne (hxA _ _ hz9) wA.1 (show (103 : Nat) ≠ 9 by decide))).trans (hxA _ _ hz9)) (nx hx) (by rw [hI]; show _ = L31 _ (bI (holdsP (knS σ (nI σ.ns - 1)) (nI k))); rw [bI_f (by rw [← hx]; exact bI_n c63)]) (by omega) (by omega)
      · refine aw_iconst X (1) dX7_digest_66 (by decide) rfl ?_
        refine aw_goto (n := 71) X dX7_digest_67 rfl ?_
        refine aw_callV X dX7_digest_71 rfl (k_X7_add X.1 htg wA _) cmX7_add ml_X7_247 rfl wA.1 rfl rfl (Nat.le_of_ble_eq_true rfl) ⟨Nat.le_of_ble_eq_true rfl, Nat.le_of_ble_eq_true rfl⟩ (aw_rv ?_)
        refine aw_iinc1 X (1) dX7_digest_74 (by decide) rfl (by decide) rfl ?_
        refine aw_goto (n := 37) X dX7_digest_77 rfl ?_
        exact ih _ _ (x + 1) _ b2 d2 (wA.sum (L31 dg _)) ((hu_n (kk_ne (hxA _ _ hz9) wA.1 (show (103 : Nat) ≠ 9 by decide))).trans (hxA _ _ hz9)) (nx hx) (by rw [hI]; show _ = L31 _ (bI (holdsP (knS σ (nI σ.ns - 1)) (nI k))); rw [bI_t (by rw [← hx]; exact bI_y c63)]) (by omega) (by omega)
  · intro j k hjk ih y2 h9 x dg b d w9 hz9 hx hI hb hd
    clear hmo hlp hls hlf hP hS hF hdd
    obtain ⟨hmo, ⟨hlp, hls, hlf⟩, ⟨hP, hS, hF⟩, -, hdd⟩ := id w9
    refine aw_ild1 X dX7_digest_14 rfl ?_
    refine aw_bipush X (16) dX7_digest_15 (by decide) rfl ?_
    refine aw_icmp_ge (n2 := 35) X dX7_digest_17 rfl rfl (fun c17 => absurd c17 (by rw [hx]; exact (show ¬ nI 16 ≤ nI k from nI_ge (by omega) (by decide)))) (fun c17 => ?_)
    refine aw_ald0 X dX7_digest_20 rfl ?_
    refine aw_ald0 X dX7_digest_21 rfl ?_
    refine aw_ild1 X dX7_digest_22 rfl ?_
    obtain ⟨b2, rfl⟩ : ∃ b2, b = b2 + 15 := ⟨b - 15, by omega⟩
    obtain ⟨d2, rfl⟩ : ∃ d2, d = d2 + 68 := ⟨d - 68, by omega⟩
    refine aw_callV X dX7_digest_23 rfl (k_X7_manyNow X.1 htg w9 hv (q9 := k) hx (by omega)) cmX7_manyNow ml_X7_221 rfl hmo rfl rfl (Nat.le_of_ble_eq_true rfl) ⟨Nat.le_of_ble_eq_true rfl, Nat.le_of_ble_eq_true rfl⟩ (fun r hA hq hf => ?_)
    obtain ⟨rfl, hxA⟩ := hq
    have wA := w9.ext hxA
    refine aw_callV X dX7_digest_26 rfl (k_X7_add X.1 htg wA _) cmX7_add ml_X7_247 rfl wA.1 rfl rfl (Nat.le_of_ble_eq_true rfl) ⟨Nat.le_of_ble_eq_true rfl, Nat.le_of_ble_eq_true rfl⟩ (aw_rv ?_)
    refine aw_iinc1 X (1) dX7_digest_29 (by decide) rfl (by decide) rfl ?_
    refine aw_goto (n := 14) X dX7_digest_32 rfl ?_
    exact ih _ _ (x + 1) _ b2 d2 (wA.sum (L31 dg _)) ((hu_n (kk_ne (hxA _ _ hz9) wA.1 (show (103 : Nat) ≠ 9 by decide))).trans (hxA _ _ hz9)) (nx hx) (by rw [hI, hx]; rfl) (by omega) (by omega)
