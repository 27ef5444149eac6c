/-! ISSO, FROM ITS START -/
theorem IV.plc {σ : NS} (hv : IV σ) {k : Nat} (hk : k < σ.nf) (h3 : σ.F k 3 ≠ 0) : ∃ q, q < 10 ∧ σ.F k 4 = nI q := by
  have h9 := (hv.2.2.2.1 k hk).2.2.2
  have h4 : 0 ≤ σ.F k 4 ∧ σ.F k 4 ≤ 9 := by
    rcases h9 with ⟨e, -⟩ | ⟨-, e, -⟩ | ⟨-, e, -⟩
    · exact absurd e h3
    · exact e
    · exact e
  obtain ⟨q, hq, e⟩ := i_le (n := 9) h4.1 h4.2 (by decide)
  exact ⟨q, by omega, e⟩

set_option maxHeartbeats 4000000 in
set_option maxRecDepth 100000 in
theorem k_isSo {l : Launch} {s0 : State} {a0 : Array Value} {G : GG} (X : CX l s0 a0 G) {h : AH} {tg ke : Nat} {A : KA} {σ : NS} (htg : tg ≠ 0) (w : KelW G h tg ke A σ) (hv : IV σ) (hE : EX σ.F σ.nf) (h5 : σ.nf = 5)  : Con l s0 G yL_isSo cL_isSo 16 (some .boolean) 10 0 0 tg [.ref ke, .int σ.di] h (ISQ G tg ke σ) := by
  refine Con.of X (by decide +kernel) [some (.ref ke), some (.int σ.di), none, none, none, none, none, none, none, none, none, none, none, none, none, none] rfl (Nat.le_of_ble_eq_true rfl) (fun p e s m below meth c X hnm hret => ?_)
  have hn10 := hv.1.2.1
  refine aw_iconst X (0) dL_isSo_0 (by decide) rfl ?_
  refine aw_ist2 X dL_isSo_1 rfl (by decide) rfl ?_
  refine aw_iconst X (0) dL_isSo_2 (by decide) rfl ?_
  refine aw_ist3 X dL_isSo_3 rfl (by decide) rfl ?_
  refine aw_iconst X (0) dL_isSo_4 (by decide) rfl ?_
  refine aw_ist4 X dL_isSo_5 rfl (by decide) rfl ?_
  refine aw_iconst X (0) dL_isSo_7 (by decide) rfl ?_
  refine aw_ist5 X dL_isSo_8 rfl (by decide) rfl ?_
  refine aw_iconst X (0) dL_isSo_10 (by decide) rfl ?_
  refine aw_ist6 X dL_isSo_11 rfl (by decide) rfl ?_
  refine aw_iconst X (0) dL_isSo_13 (by decide) rfl ?_
  refine aw_ist7 X dL_isSo_14 rfl (by decide) rfl ?_
  refine aw_dn (n := 5) (A := fun j k => ∀ (y8 : Option Value), ∀ (y9 : Option Value), ∀ (y10 : Option Value), ∀ (y11 : Option Value), ∀ (y12 : Option Value), ∀ (y13 : Option Value), ∀ (y14 : Option Value), ∀ (y15 : Option Value), ∀ (x : Int32), ∀ (u2 : Int32), ∀ (u3 : Int32), ∀ (u4 : Int32), ∀ (u5 : Int32), ∀ (u6 : Int32), (x = nI k) → (u2 = setF σ.F k) → (u3 = cntF σ.F k) → (u4 = hnC σ.F 2 k) → (u5 = hnC σ.F 3 k) → (u6 = sumF σ.F σ.di k) → AW p l e _ s m _ below meth c _ s0 G 16 tg _ h _ _ 16 [some (.ref ke), some (.int σ.di), some (.int (u2)), some (.int (u3)), some (.int (u4)), some (.int (u5)), some (.int (u6)), some (.int (x)), y8, y9, y10, y11, y12, y13, y14, y15] []) ?_ ?_ 5 0 rfl none none none none none none none none 0 0 0 0 0 0 nI_0.symm rfl rfl rfl rfl rfl
  · intro y8 y9 y10 y11 y12 y13 y14 y15 x u2 u3 u4 u5 u6 hxk hI2 hI3 hI4 hI5 hI6
    rw [← h5] at hI2 hI3 hI4 hI5 hI6
    subst hI2 hI3 hI4 hI5 hI6
    refine aw_ild7 X dL_isSo_16 rfl ?_
    refine aw_iconst X (5) dL_isSo_18 (by decide) rfl ?_
    refine aw_icmp_ge (n2 := 237) X dL_isSo_19 rfl rfl (fun c19 => ?_) (fun c19 => absurd (by rw [hxk]; decide) c19)
    refine aw_iconst X (0) dL_isSo_237 (by decide) rfl ?_
    refine aw_ist7 X dL_isSo_238 rfl (by decide) rfl ?_
    refine aw_iconst X (0) dL_isSo_240 (by decide) rfl ?_
    refine aw_ist8 X dL_isSo_241 rfl (by decide) rfl ?_
    refine aw_dn (n := 10) (A := fun j k => ∀ (y9 : Option Value), ∀ (y10 : Option Value), ∀ (y11 : Option Value), ∀ (y12 : Option Value), ∀ (y13 : Option Value), ∀ (y14 : Option Value), ∀ (y15 : Option Value), ∀ (x : Int32), ∀ (u : Int32), (x = nI k) → (u = thC σ.F σ.nf k) → AW p l e _ s m _ below meth c _ s0 G 16 tg _ h _ _ 243 [some (.ref ke), some (.int σ.di), some (.int (setF σ.F σ.nf)), some (.int (cntF σ.F σ.nf)), some (.int (hnC σ.F 2 σ.nf)), some (.int (hnC σ.F 3 σ.nf)), some (.int (sumF σ.F σ.di σ.nf)), some (.int (u)), some (.int (x)), y9, y10, y11, y12, y13, y14, y15] []) ?_ ?_ 10 0 rfl _ _ _ _ _ _ _ 0 0 nI_0.symm rfl
    · intro y9 y10 y11 y12 y13 y14 y15 x u hx2 hI
      subst hI
      refine aw_ild8 X dL_isSo_243 rfl ?_
      refine aw_bipush X (10) dL_isSo_245 (by decide) rfl ?_
      refine aw_icmp_ge (n2 := 275) X dL_isSo_247 rfl rfl (fun c247 => ?_) (fun c247 => absurd (by rw [hx2]; decide) c247)
      refine aw_ild4 X dL_isSo_275 rfl ?_
      refine aw_iconst X (1) dL_isSo_277 (by decide) rfl ?_
      refine aw_icmp_gt (n2 := 334) X dL_isSo_278 rfl rfl (fun c278 => absurd c278 (hn_one hE (by decide) (by decide))) (fun c278 => ?_)
      refine aw_ild5 X dL_isSo_281 rfl ?_
      refine aw_iconst X (1) dL_isSo_283 (by decide) rfl ?_
      refine aw_icmp_gt (n2 := 334) X dL_isSo_284 rfl rfl (fun c284 => absurd c284 (hn_one hE (by decide) (by decide))) (fun c284 => ?_)
      refine aw_ild7 X dL_isSo_287 rfl ?_
      refine aw_ild3 X dL_isSo_289 rfl ?_
      refine aw_icmp_ne (n2 := 334) X dL_isSo_290 rfl rfl (fun c290 => absurd (th_cnt σ.nf (by omega) hE (fun k hk h3 => hv.plc hk h3)) c290) (fun c290 => ?_)
      refine aw_ald0 X dL_isSo_293 rfl ?_
      refine aw_bipush X (15) dL_isSo_294 (by decide) rfl ?_
      refine aw_callV X dL_isSo_296 rfl (r_man X.1 w (by decide) (man15 σ)) cmX6_many ml_L_40 rfl w.1 rfl rfl (Nat.le_of_ble_eq_true rfl) ⟨Nat.le_of_ble_eq_true rfl, Nat.le_of_ble_eq_true rfl⟩ (aw_rs ?_)
      refine aw_ild3 X dL_isSo_299 rfl ?_
      refine aw_icmp_ne (n2 := 334) X dL_isSo_300 rfl rfl (fun c300 => absurd rfl c300) (fun c300 => ?_)
      refine aw_ald0 X dL_isSo_303 rfl ?_
      refine aw_bipush X (7) dL_isSo_304 (by decide) rfl ?_
      refine aw_callV X dL_isSo_306 rfl (r_man X.1 w (by decide) (man7 σ)) cmX6_many ml_L_40 rfl w.1 rfl rfl (Nat.le_of_ble_eq_true rfl) ⟨Nat.le_of_ble_eq_true rfl, Nat.le_of_ble_eq_true rfl⟩ (aw_rs ?_)
      refine aw_ild2 X dL_isSo_309 rfl ?_
      refine aw_icmp_ne (n2 := 334) X dL_isSo_310 rfl rfl (fun c310 => absurd rfl c310) (fun c310 => ?_)
      refine aw_ald0 X dL_isSo_313 rfl ?_
      refine aw_callV X dL_isSo_314 rfl (k_X6_meanShadow X.1 w (fun q => dd_ok q)) cmX6_meanShadow ml_L_122 rfl w.1 rfl rfl (Nat.le_of_ble_eq_true rfl) ⟨Nat.le_of_ble_eq_true rfl, Nat.le_of_ble_eq_true rfl⟩ (aw_rs ?_)
      obtain ⟨c9, s9, hc9, hs9, ec, esm⟩ := sum_nat hv σ.nf (Nat.le_refl _)
      have hf := fl_ok (c := c9) (s := s9) (by omega) (by omega)
      unfold fl_k at hf
      simp only [Bool.and_eq_true, decide_eq_true_eq] at hf
      obtain ⟨f1, f2, f4⟩ := hf
      have eM : FP.dmul (meanS σ) (FP.i2d (cntF σ.F σ.nf)) = fl_p c9 s9 := by
        unfold meanS fl_p
        rw [ec, esm]
      have eD : FP.dsub (fl_p c9 s9) (FP.i2d (sumF σ.F σ.di σ.nf)) = fl_d c9 s9 := by
        unfold fl_d
        rw [esm]
      refine aw_ild3 X dL_isSo_317 rfl ?_
      refine aw_i2d X dL_isSo_318 rfl ?_
      refine aw_dmul X dL_isSo_319 (by rw [eM]; exact fl_y f1) rfl ?_
      rw [eM]
      refine aw_ild6 X dL_isSo_320 rfl ?_
      skip
      refine aw_i2d X dL_isSo_322 rfl ?_
      skip
      refine aw_dsub X dL_isSo_323 (by rw [eD]; exact fl_y f2) rfl ?_
      rw [eD]
      refine aw_dabs X (fl_y f2) dL_isSo_324 rfl ml_L_126 (Nat.le_of_ble_eq_true rfl) (Nat.le_of_ble_eq_true rfl) ?_
      refine aw_ldc2d X (4562254508917369340) dL_isSo_327 rfl cod_L_129 ?_
      refine aw_dcmp X dL_isSo_330 rfl ?_
      refine aw_if_le (n2 := 336) X dL_isSo_331 rfl rfl (fun c331 => ?_) (fun c331 => absurd f4 c331)
      refine aw_iconst X (0) dL_isSo_336 (by decide) rfl ?_
      refine aw_ist8 X dL_isSo_337 rfl (by decide) rfl ?_
      refine aw_iconst X (0) dL_isSo_339 (by decide) rfl ?_
      refine aw_ist9 X dL_isSo_340 rfl (by decide) rfl ?_
      refine aw_iconst X (-1) dL_isSo_342 (by decide) rfl ?_
      refine aw_ist10 X dL_isSo_343 rfl (by decide) rfl ?_
      refine aw_iconst X (0) dL_isSo_345 (by decide) rfl ?_
      refine aw_ist11 X dL_isSo_346 rfl (by decide) rfl ?_
      refine aw_dn (n := σ.ns) (A := fun j k => ∀ (y3 : Option Value), ∀ (y4 : Option Value), ∀ (y5 : Option Value), ∀ (y6 : Option Value), ∀ (y12 : Option Value), ∀ (y13 : Option Value), ∀ (y14 : Option Value), ∀ (y15 : Option Value), ∀ (x : Int32), ∀ (u8 : Int32), ∀ (u9 : Int32), ∀ (u10 : Int32), (x = nI k) → (u8 = rB σ.S k) → (u9 = nB σ k) → (u10 = onL σ k) → AW p l e _ s m _ below meth c _ s0 G 16 tg _ h _ _ 348 [some (.ref ke), some (.int σ.di), some (.int (setF σ.F σ.nf)), y3, y4, y5, y6, some (.int (thC σ.F σ.nf 10)), some (.int (u8)), some (.int (u9)), some (.int (u10)), some (.int (x)), y12, y13, y14, y15] []) ?_ ?_ σ.ns 0 rfl _ _ _ _ _ _ _ _ 0 0 0 (-1) nI_0.symm rfl rfl rfl
      · intro y3 y4 y5 y6 y12 y13 y14 y15 x u8 u9 u10 hxk hI8 hI9 hI10
        refine aw_ild11 X dL_isSo_348 rfl ?_
        refine aw_ald0 X dL_isSo_350 rfl ?_
        refine aw_iconst X (3) dL_isSo_351 (by decide) rfl ?_
        refine aw_callV X dL_isSo_352 rfl (r_man X.1 w (by decide) (man3 σ)) cmX6_many ml_L_40 rfl w.1 rfl rfl (Nat.le_of_ble_eq_true rfl) ⟨Nat.le_of_ble_eq_true rfl, Nat.le_of_ble_eq_true rfl⟩ (aw_rs ?_)
        refine aw_icmp_ge (n2 := 638) X dL_isSo_355 rfl rfl (fun c355 => ?_) (fun c355 => absurd (ge_t hxk (Nat.le_refl _) (by omega)) c355)
        rw [hI8, hI9, hI10, onL_end hv]
        exact is_str X hret htg w hv
      · intro j k hjk ih y3 y4 y5 y6 y12 y13 y14 y15 x u8 u9 u10 hxk hI8 hI9 hI10
        have hk : k < σ.ns := by omega
        refine aw_ild11 X dL_isSo_348 rfl ?_
        refine aw_ald0 X dL_isSo_350 rfl ?_
        refine aw_iconst X (3) dL_isSo_351 (by decide) rfl ?_
        refine aw_callV X dL_isSo_352 rfl (r_man X.1 w (by decide) (man3 σ)) cmX6_many ml_L_40 rfl w.1 rfl rfl (Nat.le_of_ble_eq_true rfl) ⟨Nat.le_of_ble_eq_true rfl, Nat.le_of_ble_eq_true rfl⟩ (aw_rs ?_)
        refine aw_icmp_ge (n2 := 638) X dL_isSo_355 rfl rfl (fun c355 => absurd c355 (ge_f hxk (by omega) (by omega))) (fun c355 => ?_)
        refine aw_ald0 X dL_isSo_358 rfl ?_
        refine aw_ild11 X dL_isSo_359 rfl ?_
        refine aw_bipush X (6) dL_isSo_361 (by decide) rfl ?_
        refine aw_callV X dL_isSo_363 rfl (r_scn X.1 w hxk hk (by decide) (sv6 σ _)) cmX6_ofScene ml_L_76 rfl w.1 rfl rfl (Nat.le_of_ble_eq_true rfl) ⟨Nat.le_of_ble_eq_true rfl, Nat.le_of_ble_eq_true rfl⟩ (aw_rs ?_)
        refine aw_ild8 X dL_isSo_366 rfl ?_
        refine aw_icmp_ne (n2 := 415) X dL_isSo_368 rfl rfl (fun c368 => absurd hI8.symm c368) (fun c368 => ?_)
        refine aw_ald0 X dL_isSo_371 rfl ?_
        refine aw_ild11 X dL_isSo_372 rfl ?_
        refine aw_bipush X (7) dL_isSo_374 (by decide) rfl ?_
        refine aw_callV X dL_isSo_376 rfl (r_scn X.1 w hxk hk (by decide) (sv7 σ _)) cmX6_ofScene ml_L_76 rfl w.1 rfl rfl (Nat.le_of_ble_eq_true rfl) ⟨Nat.le_of_ble_eq_true rfl, Nat.le_of_ble_eq_true rfl⟩ (aw_rs ?_)
        refine aw_iconst X (2) dL_isSo_379 (by decide) rfl ?_
        refine aw_ild8 X dL_isSo_380 rfl ?_
        refine aw_sipush X (180) dL_isSo_382 (by decide) rfl ?_
        refine aw_idiv X dL_isSo_385 (by decide) rfl ?_
        refine aw_mmin X dL_isSo_386 rfl ⟨ml_L_60, mm_min⟩ (Nat.le_of_ble_eq_true rfl) (Nat.le_of_ble_eq_true rfl) ?_
        refine aw_icmp_ne (n2 := 415) X dL_isSo_389 rfl rfl (fun c389 => absurd (by rw [hI8]; rfl) c389) (fun c389 => ?_)
        refine aw_ald0 X dL_isSo_392 rfl ?_
        refine aw_ild11 X dL_isSo_393 rfl ?_
        refine aw_bipush X (8) dL_isSo_395 (by decide) rfl ?_
        refine aw_callV X dL_isSo_397 rfl (r_scn X.1 w hxk hk (by decide) (sv8 σ _)) cmX6_ofScene ml_L_76 rfl w.1 rfl rfl (Nat.le_of_ble_eq_true rfl) ⟨Nat.le_of_ble_eq_true rfl, Nat.le_of_ble_eq_true rfl⟩ (aw_rs ?_)
        refine aw_if_lt (n2 := 415) X dL_isSo_400 rfl rfl (fun c400 => absurd c400 (br_in σ k).1) (fun c400 => ?_)
        refine aw_ald0 X dL_isSo_403 rfl ?_
        refine aw_ild11 X dL_isSo_404 rfl ?_
        refine aw_bipush X (8) dL_isSo_406 (by decide) rfl ?_
        refine aw_callV X dL_isSo_408 rfl (r_scn X.1 w hxk hk (by decide) (sv8 σ _)) cmX6_ofScene ml_L_76 rfl w.1 rfl rfl (Nat.le_of_ble_eq_true rfl) ⟨Nat.le_of_ble_eq_true rfl, Nat.le_of_ble_eq_true rfl⟩ (aw_rs ?_)
        refine aw_iconst X (5) dL_isSo_411 (by decide) rfl ?_
        refine aw_icmp_le (n2 := 417) X dL_isSo_412 rfl rfl (fun c412 => ?_) (fun c412 => absurd (br_in σ k).2 c412)
        refine aw_ald0 X dL_isSo_417 rfl ?_
        refine aw_iconst X (0) dL_isSo_418 (by decide) rfl ?_
        refine aw_callV X dL_isSo_419 rfl (r_man X.1 w (by decide) (man0 σ)) cmX6_many ml_L_40 rfl w.1 rfl rfl (Nat.le_of_ble_eq_true rfl) ⟨Nat.le_of_ble_eq_true rfl, Nat.le_of_ble_eq_true rfl⟩ (aw_rs ?_)
        refine aw_ild8 X dL_isSo_422 rfl ?_
        refine aw_icmp_lt (n2 := 449) X dL_isSo_424 rfl rfl (fun c424 => ?_) (fun c424 => ?_)
        · rw [hI8, hI9]
          refine is_ah X hret htg w hv hxk hk (fun y12 y13 y14 => ?_)
          exact ih _ _ _ _ _ _ _ _ (x + 1) _ _ _ (nx hxk) rfl rfl (by rw [hI10]; exact (if_neg (fun q => Int32.not_le.mpr (by rw [← hI8]; exact c424) q.1)).symm)
        · refine aw_ald0 X dL_isSo_427 rfl ?_
          refine aw_iconst X (0) dL_isSo_428 (by decide) rfl ?_
          refine aw_callV X dL_isSo_429 rfl (r_man X.1 w (by decide) (man0 σ)) cmX6_many ml_L_40 rfl w.1 rfl rfl (Nat.le_of_ble_eq_true rfl) ⟨Nat.le_of_ble_eq_true rfl, Nat.le_of_ble_eq_true rfl⟩ (aw_rs ?_)
          refine aw_ild8 X dL_isSo_432 rfl ?_
          refine aw_ald0 X dL_isSo_434 rfl ?_
          refine aw_ild11 X dL_isSo_435 rfl ?_
          refine aw_iconst X (3) dL_isSo_437 (by decide) rfl ?_
          refine aw_callV X dL_isSo_438 rfl (r_scn X.1 w hxk hk (by decide) (sv3 σ _)) cmX6_ofScene ml_L_76 rfl w.1 rfl rfl (Nat.le_of_ble_eq_true rfl) ⟨Nat.le_of_ble_eq_true rfl, Nat.le_of_ble_eq_true rfl⟩ (aw_rs ?_)
          refine aw_iadd X dL_isSo_441 rfl ?_
          refine aw_icmp_ge (n2 := 449) X dL_isSo_442 rfl rfl (fun c442 => ?_) (fun c442 => ?_)
          · rw [hI8, hI9]
            refine is_ah X hret htg w hv hxk hk (fun y12 y13 y14 => ?_)
            exact ih _ _ _ _ _ _ _ _ (x + 1) _ _ _ (nx hxk) rfl rfl (by rw [hI10]; exact (if_neg (fun q => Int32.not_lt.mpr (by rw [← hI8]; exact c442) q.2)).symm)
          · refine aw_ild11 X dL_isSo_445 rfl ?_
            refine aw_ist10 X dL_isSo_447 rfl (by decide) rfl ?_
            rw [hI8, hI9]
            refine is_ah X hret htg w hv hxk hk (fun y12 y13 y14 => ?_)
            exact ih _ _ _ _ _ _ _ _ (x + 1) _ _ _ (nx hxk) rfl rfl (by rw [hxk]; exact (if_pos ⟨by rw [← hI8]; exact Int32.not_lt.mp c424, by rw [← hI8]; exact Int32.not_le.mp c442⟩).symm)
    · intro j k hjk ih y9 y10 y11 y12 y13 y14 y15 x u hx2 hI
      refine aw_ild8 X dL_isSo_243 rfl ?_
      refine aw_bipush X (10) dL_isSo_245 (by decide) rfl ?_
      refine aw_icmp_ge (n2 := 275) X dL_isSo_247 rfl rfl (fun c247 => absurd c247 (by rw [hx2]; exact (show ¬ nI 10 ≤ nI k from nI_ge (by omega) (by decide)))) (fun c247 => ?_)
      refine aw_ild7 X dL_isSo_250 rfl ?_
      refine aw_ald0 X dL_isSo_252 rfl ?_
      refine aw_ild8 X dL_isSo_253 rfl ?_
      refine aw_callV X dL_isSo_255 rfl (r_at X.1 w (by rw [hx2]; exact i_in (n := 9) (by omega) (by decide))) cmX6_at ml_L_63 rfl w.1 rfl rfl (Nat.le_of_ble_eq_true rfl) ⟨Nat.le_of_ble_eq_true rfl, Nat.le_of_ble_eq_true rfl⟩ (aw_rs ?_)
      refine aw_if_ge (n2 := 265) X dL_isSo_258 rfl rfl (fun c258 => ?_) (fun c258 => ?_)
      · refine aw_iconst X (1) dL_isSo_265 (by decide) rfl ?_
        refine aw_iadd X dL_isSo_266 rfl ?_
        refine aw_ist7 X dL_isSo_267 rfl (by decide) rfl ?_
        refine aw_iinc8 X (1) dL_isSo_269 (by decide) rfl (by decide) rfl ?_
        refine aw_goto (n := 243) X dL_isSo_272 rfl ?_
        exact ih _ _ _ _ _ _ _ (x + 1) _ (nx hx2) (by rw [hI, show thC σ.F σ.nf (k + 1) = thC σ.F σ.nf k + (if figAt σ.F σ.nf (nI k) < 0 then 0 else 1) from rfl, if_neg (by rw [← hx2]; exact Int32.not_lt.mpr c258)])
      · refine aw_iconst X (0) dL_isSo_261 (by decide) rfl ?_
        refine aw_goto (n := 266) X dL_isSo_262 rfl ?_
        refine aw_iadd X dL_isSo_266 rfl ?_
        refine aw_ist7 X dL_isSo_267 rfl (by decide) rfl ?_
        refine aw_iinc8 X (1) dL_isSo_269 (by decide) rfl (by decide) rfl ?_
        refine aw_goto (n := 243) X dL_isSo_272 rfl ?_
        exact ih _ _ _ _ _ _ _ (x + 1) _ (nx hx2) (by rw [hI, show thC σ.F σ.nf (k + 1) = thC σ.F σ.nf k + (if figAt σ.F σ.nf (nI k) < 0 then 0 else 1) from rfl, if_pos (by rw [← hx2]; exact Int32.not_le.mp c258)])
  · intro j k hjk ih y8 y9 y10 y11 y12 y13 y14 y15 x u2 u3 u4 u5 u6 hxk hI2 hI3 hI4 hI5 hI6
    have hk : k < σ.nf := by omega
    obtain ⟨av, sv9, ea, es, hav, hsv, hz, ed⟩ := hv.sh hk
    have hrow := (hv.2.2.2.1 k hk)
    have hrx := hE.2.2 k hk
    refine aw_ild7 X dL_isSo_16 rfl ?_
    refine aw_iconst X (5) dL_isSo_18 (by decide) rfl ?_
    refine aw_icmp_ge (n2 := 237) X dL_isSo_19 rfl rfl (fun c19 => absurd c19 (by rw [hxk]; exact (show ¬ nI 5 ≤ nI k from nI_ge (by omega) (by decide)))) (fun c19 => ?_)
    refine aw_ald0 X dL_isSo_22 rfl ?_
    refine aw_ild7 X dL_isSo_23 rfl ?_
    refine aw_iconst X (3) dL_isSo_25 (by decide) rfl ?_
    refine aw_callV X dL_isSo_26 rfl (r_fig X.1 w hxk hk (by decide) (fv3 _ _ _)) cmX6_ofFigure ml_L_37 rfl w.1 rfl rfl (Nat.le_of_ble_eq_true rfl) ⟨Nat.le_of_ble_eq_true rfl, Nat.le_of_ble_eq_true rfl⟩ (aw_rs ?_)
    rcases hrow.2.2.2 with ⟨e3, e4, e5⟩ | ⟨e3, e4, e5⟩ | ⟨e3 | e3, e4, e5⟩
    · skip
      refine aw_ist8 X dL_isSo_29 rfl (by decide) rfl ?_
      refine aw_ald0 X dL_isSo_31 rfl ?_
      refine aw_ild7 X dL_isSo_32 rfl ?_
      refine aw_iconst X (4) dL_isSo_34 (by decide) rfl ?_
      refine aw_callV X dL_isSo_35 rfl (r_fig X.1 w hxk hk (by decide) (fv4 _ _ _)) cmX6_ofFigure ml_L_37 rfl w.1 rfl rfl (Nat.le_of_ble_eq_true rfl) ⟨Nat.le_of_ble_eq_true rfl, Nat.le_of_ble_eq_true rfl⟩ (aw_rs ?_)
      refine aw_ist9 X dL_isSo_38 rfl (by decide) rfl ?_
      refine aw_ald0 X dL_isSo_40 rfl ?_
      refine aw_ild7 X dL_isSo_41 rfl ?_
      refine aw_iconst X (5) dL_isSo_43 (by decide) rfl ?_
      refine aw_callV X dL_isSo_44 rfl (r_fig X.1 w hxk hk (by decide) (fv5 _ _ _)) cmX6_ofFigure ml_L_37 rfl w.1 rfl rfl (Nat.le_of_ble_eq_true rfl) ⟨Nat.le_of_ble_eq_true rfl, Nat.le_of_ble_eq_true rfl⟩ (aw_rs ?_)
      refine aw_ist10 X dL_isSo_47 rfl (by decide) rfl ?_
      refine aw_ild8 X dL_isSo_49 rfl ?_
      refine aw_iconst X (2) dL_isSo_51 (by decide) rfl ?_
      refine aw_icmp_ne (n2 := 58) X dL_isSo_52 rfl rfl (fun c52 => ?_) (fun c52 => absurd c52 (by rw [e3]; decide))
      refine aw_ild8 X dL_isSo_58 rfl ?_
      refine aw_iconst X (3) dL_isSo_60 (by decide) rfl ?_
      refine aw_icmp_ne (n2 := 67) X dL_isSo_61 rfl rfl (fun c61 => ?_) (fun c61 => absurd c61 (by rw [e3]; decide))
      refine aw_ild8 X dL_isSo_67 rfl ?_
      refine aw_iconst X (2) dL_isSo_69 (by decide) rfl ?_
      refine aw_icmp_ne (n2 := 79) X dL_isSo_70 rfl rfl (fun c70 => ?_) (fun c70 => absurd c70 (by rw [e3]; decide))
      refine aw_ild8 X dL_isSo_79 rfl ?_
      refine aw_iconst X (3) dL_isSo_81 (by decide) rfl ?_
      refine aw_icmp_ne (n2 := 91) X dL_isSo_82 rfl rfl (fun c82 => ?_) (fun c82 => absurd c82 (by rw [e3]; decide))
      refine aw_ild8 X dL_isSo_91 rfl ?_
      refine aw_if_le (n2 := 107) X dL_isSo_93 rfl rfl (fun c93 => ?_) (fun c93 => absurd (by rw [e3]; decide) c93)
      refine aw_ild8 X dL_isSo_107 rfl ?_
      refine aw_if_ne (n2 := 118) X dL_isSo_109 rfl rfl (fun c109 => absurd e3 c109) (fun c109 => ?_)
      refine aw_ild9 X dL_isSo_112 rfl ?_
      refine aw_iconst X (-1) dL_isSo_114 (by decide) rfl ?_
      refine aw_icmp_ne (n2 := 129) X dL_isSo_115 rfl rfl (fun c115 => absurd e4 c115) (fun c115 => ?_)
      refine aw_ild8 X dL_isSo_118 rfl ?_
      refine aw_iconst X (2) dL_isSo_120 (by decide) rfl ?_
      refine aw_icmp_ge (n2 := 131) X dL_isSo_121 rfl rfl (fun c121 => absurd c121 (by rw [e3]; decide)) (fun c121 => ?_)
      refine aw_ild10 X dL_isSo_124 rfl ?_
      refine aw_if_eq (n2 := 131) X dL_isSo_126 rfl rfl (fun c126 => ?_) (fun c126 => absurd e5 c126)
      refine aw_ald0 X dL_isSo_131 rfl ?_
      refine aw_ild7 X dL_isSo_132 rfl ?_
      refine aw_bipush X (6) dL_isSo_134 (by decide) rfl ?_
      refine aw_callV X dL_isSo_136 rfl (r_fig X.1 w hxk hk (by decide) (fv6 _ _ _)) cmX6_ofFigure ml_L_37 rfl w.1 rfl rfl (Nat.le_of_ble_eq_true rfl) ⟨Nat.le_of_ble_eq_true rfl, Nat.le_of_ble_eq_true rfl⟩ (aw_rs ?_)
      refine aw_ald0 X dL_isSo_139 rfl ?_
      refine aw_ild7 X dL_isSo_140 rfl ?_
      refine aw_iconst X (1) dL_isSo_142 (by decide) rfl ?_
      refine aw_callV X dL_isSo_143 rfl (r_fig X.1 w hxk hk (by decide) (fv1 _ _ _)) cmX6_ofFigure ml_L_37 rfl w.1 rfl rfl (Nat.le_of_ble_eq_true rfl) ⟨Nat.le_of_ble_eq_true rfl, Nat.le_of_ble_eq_true rfl⟩ (aw_rs ?_)
      refine aw_icmp_lt (n2 := 193) X dL_isSo_146 rfl rfl (fun c146 => absurd c146 (by rw [es, ea]; exact nI_nlt hav (by omega))) (fun c146 => ?_)
      refine aw_ald0 X dL_isSo_149 rfl ?_
      refine aw_ild7 X dL_isSo_150 rfl ?_
      refine aw_bipush X (6) dL_isSo_152 (by decide) rfl ?_
      refine aw_callV X dL_isSo_154 rfl (r_fig X.1 w hxk hk (by decide) (fv6 _ _ _)) cmX6_ofFigure ml_L_37 rfl w.1 rfl rfl (Nat.le_of_ble_eq_true rfl) ⟨Nat.le_of_ble_eq_true rfl, Nat.le_of_ble_eq_true rfl⟩ (aw_rs ?_)
      refine aw_ald0 X dL_isSo_157 rfl ?_
      refine aw_ild7 X dL_isSo_158 rfl ?_
      refine aw_iconst X (1) dL_isSo_160 (by decide) rfl ?_
      refine aw_callV X dL_isSo_161 rfl (r_fig X.1 w hxk hk (by decide) (fv1 _ _ _)) cmX6_ofFigure ml_L_37 rfl w.1 rfl rfl (Nat.le_of_ble_eq_true rfl) ⟨Nat.le_of_ble_eq_true rfl, Nat.le_of_ble_eq_true rfl⟩ (aw_rs ?_)
      refine aw_ild1 X dL_isSo_164 rfl ?_
      refine aw_imul X dL_isSo_165 rfl ?_
      refine aw_ild1 X dL_isSo_166 rfl ?_
      refine aw_ild10 X dL_isSo_167 rfl ?_
      refine aw_isub X dL_isSo_169 rfl ?_
      refine aw_idiv X dL_isSo_170 (hz) rfl ?_
      refine aw_icmp_ne (n2 := 193) X dL_isSo_171 rfl rfl (fun c171 => absurd (es.trans ed.symm) c171) (fun c171 => ?_)
      refine aw_ald0 X dL_isSo_174 rfl ?_
      refine aw_ild7 X dL_isSo_175 rfl ?_
      refine aw_iconst X (2) dL_isSo_177 (by decide) rfl ?_
      refine aw_callV X dL_isSo_178 rfl (r_fig X.1 w hxk hk (by decide) (fv2 _ _ _)) cmX6_ofFigure ml_L_37 rfl w.1 rfl rfl (Nat.le_of_ble_eq_true rfl) ⟨Nat.le_of_ble_eq_true rfl, Nat.le_of_ble_eq_true rfl⟩ (aw_rs ?_)
      refine aw_bipush X (100) dL_isSo_181 (by decide) rfl ?_
      refine aw_icmp_gt (n2 := 193) X dL_isSo_183 rfl rfl (fun c183 => absurd c183 (Int32.not_lt.mpr hrow.2.2.1.2)) (fun c183 => ?_)
      refine aw_ild10 X dL_isSo_186 rfl ?_
      refine aw_bipush X (15) dL_isSo_188 (by decide) rfl ?_
      refine aw_icmp_le (n2 := 195) X dL_isSo_190 rfl rfl (fun c190 => ?_) (fun c190 => absurd (by rw [e5]; decide) c190)
      refine aw_ild8 X dL_isSo_195 rfl ?_
      refine aw_if_ne (n2 := 203) X dL_isSo_197 rfl rfl (fun c197 => absurd e3 c197) (fun c197 => ?_)
      refine aw_goto (n := 231) X dL_isSo_200 rfl ?_
      refine aw_iinc7 X (1) dL_isSo_231 (by decide) rfl (by decide) rfl ?_
      refine aw_goto (n := 16) X dL_isSo_234 rfl ?_
      exact ih _ _ _ _ _ _ _ _ (x + 1) _ _ _ _ _ (nx hxk) (by rw [hI2]; exact (if_neg (fun q => q e3)).symm) (by rw [hI3]; exact (if_neg (fun q => q e3)).symm) (by rw [hI4]; exact (if_neg (by rw [e3]; decide)).symm) (by rw [hI5]; exact (if_neg (by rw [e3]; decide)).symm) (by rw [hI6]; exact (if_neg (fun q => q e3)).symm)
    · have h3 : ¬ σ.F k 3 = 0 := by rw [e3]; decide
      refine aw_ist8 X dL_isSo_29 rfl (by decide) rfl ?_
      refine aw_ald0 X dL_isSo_31 rfl ?_
      refine aw_ild7 X dL_isSo_32 rfl ?_
      refine aw_iconst X (4) dL_isSo_34 (by decide) rfl ?_
      refine aw_callV X dL_isSo_35 rfl (r_fig X.1 w hxk hk (by decide) (fv4 _ _ _)) cmX6_ofFigure ml_L_37 rfl w.1 rfl rfl (Nat.le_of_ble_eq_true rfl) ⟨Nat.le_of_ble_eq_true rfl, Nat.le_of_ble_eq_true rfl⟩ (aw_rs ?_)
      refine aw_ist9 X dL_isSo_38 rfl (by decide) rfl ?_
      refine aw_ald0 X dL_isSo_40 rfl ?_
      refine aw_ild7 X dL_isSo_41 rfl ?_
      refine aw_iconst X (5) dL_isSo_43 (by decide) rfl ?_
      refine aw_callV X dL_isSo_44 rfl (r_fig X.1 w hxk hk (by decide) (fv5 _ _ _)) cmX6_ofFigure ml_L_37 rfl w.1 rfl rfl (Nat.le_of_ble_eq_true rfl) ⟨Nat.le_of_ble_eq_true rfl, Nat.le_of_ble_eq_true rfl⟩ (aw_rs ?_)
      refine aw_ist10 X dL_isSo_47 rfl (by decide) rfl ?_
      refine aw_ild8 X dL_isSo_49 rfl ?_
      refine aw_iconst X (2) dL_isSo_51 (by decide) rfl ?_
      refine aw_icmp_ne (n2 := 58) X dL_isSo_52 rfl rfl (fun c52 => ?_) (fun c52 => absurd c52 (by rw [e3]; decide))
      refine aw_ild8 X dL_isSo_58 rfl ?_
      refine aw_iconst X (3) dL_isSo_60 (by decide) rfl ?_
      refine aw_icmp_ne (n2 := 67) X dL_isSo_61 rfl rfl (fun c61 => ?_) (fun c61 => absurd c61 (by rw [e3]; decide))
      refine aw_ild8 X dL_isSo_67 rfl ?_
      refine aw_iconst X (2) dL_isSo_69 (by decide) rfl ?_
      refine aw_icmp_ne (n2 := 79) X dL_isSo_70 rfl rfl (fun c70 => ?_) (fun c70 => absurd c70 (by rw [e3]; decide))
      refine aw_ild8 X dL_isSo_79 rfl ?_
      refine aw_iconst X (3) dL_isSo_81 (by decide) rfl ?_
      refine aw_icmp_ne (n2 := 91) X dL_isSo_82 rfl rfl (fun c82 => ?_) (fun c82 => absurd c82 (by rw [e3]; decide))
      refine aw_ild8 X dL_isSo_91 rfl ?_
      refine aw_if_le (n2 := 107) X dL_isSo_93 rfl rfl (fun c93 => absurd c93 (by rw [e3]; decide)) (fun c93 => ?_)
      refine aw_ald0 X dL_isSo_96 rfl ?_
      refine aw_ild9 X dL_isSo_97 rfl ?_
      refine aw_callV X dL_isSo_99 rfl (r_at X.1 w e4) cmX6_at ml_L_63 rfl w.1 rfl rfl (Nat.le_of_ble_eq_true rfl) ⟨Nat.le_of_ble_eq_true rfl, Nat.le_of_ble_eq_true rfl⟩ (aw_rs ?_)
      refine aw_ild7 X dL_isSo_102 rfl ?_
      refine aw_icmp_ne (n2 := 129) X dL_isSo_104 rfl rfl (fun c104 => absurd ((at_fig hE hk h3).trans hxk.symm) c104) (fun c104 => ?_)
      refine aw_ild8 X dL_isSo_107 rfl ?_
      refine aw_if_ne (n2 := 118) X dL_isSo_109 rfl rfl (fun c109 => ?_) (fun c109 => absurd c109 h3)
      refine aw_ild8 X dL_isSo_118 rfl ?_
      refine aw_iconst X (2) dL_isSo_120 (by decide) rfl ?_
      refine aw_icmp_ge (n2 := 131) X dL_isSo_121 rfl rfl (fun c121 => absurd c121 (by rw [e3]; decide)) (fun c121 => ?_)
      refine aw_ild10 X dL_isSo_124 rfl ?_
      refine aw_if_eq (n2 := 131) X dL_isSo_126 rfl rfl (fun c126 => ?_) (fun c126 => absurd e5 c126)
      refine aw_ald0 X dL_isSo_131 rfl ?_
      refine aw_ild7 X dL_isSo_132 rfl ?_
      refine aw_bipush X (6) dL_isSo_134 (by decide) rfl ?_
      refine aw_callV X dL_isSo_136 rfl (r_fig X.1 w hxk hk (by decide) (fv6 _ _ _)) cmX6_ofFigure ml_L_37 rfl w.1 rfl rfl (Nat.le_of_ble_eq_true rfl) ⟨Nat.le_of_ble_eq_true rfl, Nat.le_of_ble_eq_true rfl⟩ (aw_rs ?_)
      refine aw_ald0 X dL_isSo_139 rfl ?_
      refine aw_ild7 X dL_isSo_140 rfl ?_
      refine aw_iconst X (1) dL_isSo_142 (by decide) rfl ?_
      refine aw_callV X dL_isSo_143 rfl (r_fig X.1 w hxk hk (by decide) (fv1 _ _ _)) cmX6_ofFigure ml_L_37 rfl w.1 rfl rfl (Nat.le_of_ble_eq_true rfl) ⟨Nat.le_of_ble_eq_true rfl, Nat.le_of_ble_eq_true rfl⟩ (aw_rs ?_)
      refine aw_icmp_lt (n2 := 193) X dL_isSo_146 rfl rfl (fun c146 => absurd c146 (by rw [es, ea]; exact nI_nlt hav (by omega))) (fun c146 => ?_)
      refine aw_ald0 X dL_isSo_149 rfl ?_
      refine aw_ild7 X dL_isSo_150 rfl ?_
      refine aw_bipush X (6) dL_isSo_152 (by decide) rfl ?_
      refine aw_callV X dL_isSo_154 rfl (r_fig X.1 w hxk hk (by decide) (fv6 _ _ _)) cmX6_ofFigure ml_L_37 rfl w.1 rfl rfl (Nat.le_of_ble_eq_true rfl) ⟨Nat.le_of_ble_eq_true rfl, Nat.le_of_ble_eq_true rfl⟩ (aw_rs ?_)
      refine aw_ald0 X dL_isSo_157 rfl ?_
      refine aw_ild7 X dL_isSo_158 rfl ?_
      refine aw_iconst X (1) dL_isSo_160 (by decide) rfl ?_
      refine aw_callV X dL_isSo_161 rfl (r_fig X.1 w hxk hk (by decide) (fv1 _ _ _)) cmX6_ofFigure ml_L_37 rfl w.1 rfl rfl (Nat.le_of_ble_eq_true rfl) ⟨Nat.le_of_ble_eq_true rfl, Nat.le_of_ble_eq_true rfl⟩ (aw_rs ?_)
      refine aw_ild1 X dL_isSo_164 rfl ?_
      refine aw_imul X dL_isSo_165 rfl ?_
      refine aw_ild1 X dL_isSo_166 rfl ?_
      refine aw_ild10 X dL_isSo_167 rfl ?_
      refine aw_isub X dL_isSo_169 rfl ?_
      refine aw_idiv X dL_isSo_170 (hz) rfl ?_
      refine aw_icmp_ne (n2 := 193) X dL_isSo_171 rfl rfl (fun c171 => absurd (es.trans ed.symm) c171) (fun c171 => ?_)
      refine aw_ald0 X dL_isSo_174 rfl ?_
      refine aw_ild7 X dL_isSo_175 rfl ?_
      refine aw_iconst X (2) dL_isSo_177 (by decide) rfl ?_
      refine aw_callV X dL_isSo_178 rfl (r_fig X.1 w hxk hk (by decide) (fv2 _ _ _)) cmX6_ofFigure ml_L_37 rfl w.1 rfl rfl (Nat.le_of_ble_eq_true rfl) ⟨Nat.le_of_ble_eq_true rfl, Nat.le_of_ble_eq_true rfl⟩ (aw_rs ?_)
      refine aw_bipush X (100) dL_isSo_181 (by decide) rfl ?_
      refine aw_icmp_gt (n2 := 193) X dL_isSo_183 rfl rfl (fun c183 => absurd c183 (Int32.not_lt.mpr hrow.2.2.1.2)) (fun c183 => ?_)
      refine aw_ild10 X dL_isSo_186 rfl ?_
      refine aw_bipush X (15) dL_isSo_188 (by decide) rfl ?_
      refine aw_icmp_le (n2 := 195) X dL_isSo_190 rfl rfl (fun c190 => ?_) (fun c190 => absurd (by rw [e5]; decide) c190)
      refine aw_ild8 X dL_isSo_195 rfl ?_
      refine aw_if_ne (n2 := 203) X dL_isSo_197 rfl rfl (fun c197 => ?_) (fun c197 => absurd c197 h3)
      refine aw_iinc3 X (1) dL_isSo_203 (by decide) rfl (by decide) rfl ?_
      refine aw_ild6 X dL_isSo_206 rfl ?_
      refine aw_ald0 X dL_isSo_208 rfl ?_
      refine aw_ild7 X dL_isSo_209 rfl ?_
      refine aw_bipush X (6) dL_isSo_211 (by decide) rfl ?_
      refine aw_callV X dL_isSo_213 rfl (r_fig X.1 w hxk hk (by decide) (fv6 _ _ _)) cmX6_ofFigure ml_L_37 rfl w.1 rfl rfl (Nat.le_of_ble_eq_true rfl) ⟨Nat.le_of_ble_eq_true rfl, Nat.le_of_ble_eq_true rfl⟩ (aw_rs ?_)
      refine aw_iadd X dL_isSo_216 rfl ?_
      refine aw_ist6 X dL_isSo_217 rfl (by decide) rfl ?_
      refine aw_ild2 X dL_isSo_219 rfl ?_
      refine aw_iconst X (1) dL_isSo_220 (by decide) rfl ?_
      refine aw_ald0 X dL_isSo_221 rfl ?_
      refine aw_ild7 X dL_isSo_222 rfl ?_
      refine aw_iconst X (0) dL_isSo_224 (by decide) rfl ?_
      refine aw_callV X dL_isSo_225 rfl (r_fig X.1 w hxk hk (by decide) (fv0 _ _ _)) cmX6_ofFigure ml_L_37 rfl w.1 rfl rfl (Nat.le_of_ble_eq_true rfl) ⟨Nat.le_of_ble_eq_true rfl, Nat.le_of_ble_eq_true rfl⟩ (aw_rs ?_)
      refine aw_ishl X dL_isSo_228 rfl ?_
      refine aw_ior X dL_isSo_229 rfl ?_
      refine aw_ist2 X dL_isSo_230 rfl (by decide) rfl ?_
      refine aw_iinc7 X (1) dL_isSo_231 (by decide) rfl (by decide) rfl ?_
      refine aw_goto (n := 16) X dL_isSo_234 rfl ?_
      exact ih _ _ _ _ _ _ _ _ (x + 1) _ _ _ _ _ (nx hxk) (by rw [hI2]; exact (if_pos h3).symm) (by rw [hI3]; exact (if_pos h3).symm) (by rw [hI4]; exact (if_neg (by rw [e3]; decide)).symm) (by rw [hI5]; exact (if_neg (by rw [e3]; decide)).symm) (by rw [hI6]; exact (if_pos h3).symm)
    · have h3 : ¬ σ.F k 3 = 0 := by rw [e3]; decide
      refine aw_ist8 X dL_isSo_29 rfl (by decide) rfl ?_
      refine aw_ald0 X dL_isSo_31 rfl ?_
      refine aw_ild7 X dL_isSo_32 rfl ?_
      refine aw_iconst X (4) dL_isSo_34 (by decide) rfl ?_
      refine aw_callV X dL_isSo_35 rfl (r_fig X.1 w hxk hk (by decide) (fv4 _ _ _)) cmX6_ofFigure ml_L_37 rfl w.1 rfl rfl (Nat.le_of_ble_eq_true rfl) ⟨Nat.le_of_ble_eq_true rfl, Nat.le_of_ble_eq_true rfl⟩ (aw_rs ?_)
      refine aw_ist9 X dL_isSo_38 rfl (by decide) rfl ?_
      refine aw_ald0 X dL_isSo_40 rfl ?_
      refine aw_ild7 X dL_isSo_41 rfl ?_
      refine aw_iconst X (5) dL_isSo_43 (by decide) rfl ?_
      refine aw_callV X dL_isSo_44 rfl (r_fig X.1 w hxk hk (by decide) (fv5 _ _ _)) cmX6_ofFigure ml_L_37 rfl w.1 rfl rfl (Nat.le_of_ble_eq_true rfl) ⟨Nat.le_of_ble_eq_true rfl, Nat.le_of_ble_eq_true rfl⟩ (aw_rs ?_)
      refine aw_ist10 X dL_isSo_47 rfl (by decide) rfl ?_
      refine aw_ild8 X dL_isSo_49 rfl ?_
      refine aw_iconst X (2) dL_isSo_51 (by decide) rfl ?_
      refine aw_icmp_ne (n2 := 58) X dL_isSo_52 rfl rfl (fun c52 => absurd e3 c52) (fun c52 => ?_)
      refine aw_iinc4 X (1) dL_isSo_55 (by decide) rfl (by decide) rfl ?_
      refine aw_ild8 X dL_isSo_58 rfl ?_
      refine aw_iconst X (3) dL_isSo_60 (by decide) rfl ?_
      refine aw_icmp_ne (n2 := 67) X dL_isSo_61 rfl rfl (fun c61 => ?_) (fun c61 => absurd c61 (by rw [e3]; decide))
      refine aw_ild8 X dL_isSo_67 rfl ?_
      refine aw_iconst X (2) dL_isSo_69 (by decide) rfl ?_
      refine aw_icmp_ne (n2 := 79) X dL_isSo_70 rfl rfl (fun c70 => absurd e3 c70) (fun c70 => ?_)
      refine aw_ild9 X dL_isSo_73 rfl ?_
      refine aw_iconst X (5) dL_isSo_75 (by decide) rfl ?_
      refine aw_icmp_gt (n2 := 129) X dL_isSo_76 rfl rfl (fun c76 => absurd c76 (Int32.not_lt.mpr (hrx.1 e3))) (fun c76 => ?_)
      refine aw_ild8 X dL_isSo_79 rfl ?_
      refine aw_iconst X (3) dL_isSo_81 (by decide) rfl ?_
      refine aw_icmp_ne (n2 := 91) X dL_isSo_82 rfl rfl (fun c82 => ?_) (fun c82 => absurd c82 (by rw [e3]; decide))
      refine aw_ild8 X dL_isSo_91 rfl ?_
      refine aw_if_le (n2 := 107) X dL_isSo_93 rfl rfl (fun c93 => absurd c93 (by rw [e3]; decide)) (fun c93 => ?_)
      refine aw_ald0 X dL_isSo_96 rfl ?_
      refine aw_ild9 X dL_isSo_97 rfl ?_
      refine aw_callV X dL_isSo_99 rfl (r_at X.1 w e4) cmX6_at ml_L_63 rfl w.1 rfl rfl (Nat.le_of_ble_eq_true rfl) ⟨Nat.le_of_ble_eq_true rfl, Nat.le_of_ble_eq_true rfl⟩ (aw_rs ?_)
      refine aw_ild7 X dL_isSo_102 rfl ?_
      refine aw_icmp_ne (n2 := 129) X dL_isSo_104 rfl rfl (fun c104 => absurd ((at_fig hE hk h3).trans hxk.symm) c104) (fun c104 => ?_)
      refine aw_ild8 X dL_isSo_107 rfl ?_
      refine aw_if_ne (n2 := 118) X dL_isSo_109 rfl rfl (fun c109 => ?_) (fun c109 => absurd c109 h3)
      refine aw_ild8 X dL_isSo_118 rfl ?_
      refine aw_iconst X (2) dL_isSo_120 (by decide) rfl ?_
      refine aw_icmp_ge (n2 := 131) X dL_isSo_121 rfl rfl (fun c121 => ?_) (fun c121 => absurd (by rw [e3]; decide) c121)
      refine aw_ald0 X dL_isSo_131 rfl ?_
      refine aw_ild7 X dL_isSo_132 rfl ?_
      refine aw_bipush X (6) dL_isSo_134 (by decide) rfl ?_
      refine aw_callV X dL_isSo_136 rfl (r_fig X.1 w hxk hk (by decide) (fv6 _ _ _)) cmX6_ofFigure ml_L_37 rfl w.1 rfl rfl (Nat.le_of_ble_eq_true rfl) ⟨Nat.le_of_ble_eq_true rfl, Nat.le_of_ble_eq_true rfl⟩ (aw_rs ?_)
      refine aw_ald0 X dL_isSo_139 rfl ?_
      refine aw_ild7 X dL_isSo_140 rfl ?_
      refine aw_iconst X (1) dL_isSo_142 (by decide) rfl ?_
      refine aw_callV X dL_isSo_143 rfl (r_fig X.1 w hxk hk (by decide) (fv1 _ _ _)) cmX6_ofFigure ml_L_37 rfl w.1 rfl rfl (Nat.le_of_ble_eq_true rfl) ⟨Nat.le_of_ble_eq_true rfl, Nat.le_of_ble_eq_true rfl⟩ (aw_rs ?_)
      refine aw_icmp_lt (n2 := 193) X dL_isSo_146 rfl rfl (fun c146 => absurd c146 (by rw [es, ea]; exact nI_nlt hav (by omega))) (fun c146 => ?_)
      refine aw_ald0 X dL_isSo_149 rfl ?_
      refine aw_ild7 X dL_isSo_150 rfl ?_
      refine aw_bipush X (6) dL_isSo_152 (by decide) rfl ?_
      refine aw_callV X dL_isSo_154 rfl (r_fig X.1 w hxk hk (by decide) (fv6 _ _ _)) cmX6_ofFigure ml_L_37 rfl w.1 rfl rfl (Nat.le_of_ble_eq_true rfl) ⟨Nat.le_of_ble_eq_true rfl, Nat.le_of_ble_eq_true rfl⟩ (aw_rs ?_)
      refine aw_ald0 X dL_isSo_157 rfl ?_
      refine aw_ild7 X dL_isSo_158 rfl ?_
      refine aw_iconst X (1) dL_isSo_160 (by decide) rfl ?_
      refine aw_callV X dL_isSo_161 rfl (r_fig X.1 w hxk hk (by decide) (fv1 _ _ _)) cmX6_ofFigure ml_L_37 rfl w.1 rfl rfl (Nat.le_of_ble_eq_true rfl) ⟨Nat.le_of_ble_eq_true rfl, Nat.le_of_ble_eq_true rfl⟩ (aw_rs ?_)
      refine aw_ild1 X dL_isSo_164 rfl ?_
      refine aw_imul X dL_isSo_165 rfl ?_
      refine aw_ild1 X dL_isSo_166 rfl ?_
      refine aw_ild10 X dL_isSo_167 rfl ?_
      refine aw_isub X dL_isSo_169 rfl ?_
      refine aw_idiv X dL_isSo_170 (hz) rfl ?_
      refine aw_icmp_ne (n2 := 193) X dL_isSo_171 rfl rfl (fun c171 => absurd (es.trans ed.symm) c171) (fun c171 => ?_)
      refine aw_ald0 X dL_isSo_174 rfl ?_
      refine aw_ild7 X dL_isSo_175 rfl ?_
      refine aw_iconst X (2) dL_isSo_177 (by decide) rfl ?_
      refine aw_callV X dL_isSo_178 rfl (r_fig X.1 w hxk hk (by decide) (fv2 _ _ _)) cmX6_ofFigure ml_L_37 rfl w.1 rfl rfl (Nat.le_of_ble_eq_true rfl) ⟨Nat.le_of_ble_eq_true rfl, Nat.le_of_ble_eq_true rfl⟩ (aw_rs ?_)
      refine aw_bipush X (100) dL_isSo_181 (by decide) rfl ?_
      refine aw_icmp_gt (n2 := 193) X dL_isSo_183 rfl rfl (fun c183 => absurd c183 (Int32.not_lt.mpr hrow.2.2.1.2)) (fun c183 => ?_)
      refine aw_ild10 X dL_isSo_186 rfl ?_
      refine aw_bipush X (15) dL_isSo_188 (by decide) rfl ?_
      refine aw_icmp_le (n2 := 195) X dL_isSo_190 rfl rfl (fun c190 => ?_) (fun c190 => absurd e5.2 c190)
      refine aw_ild8 X dL_isSo_195 rfl ?_
      refine aw_if_ne (n2 := 203) X dL_isSo_197 rfl rfl (fun c197 => ?_) (fun c197 => absurd c197 h3)
      refine aw_iinc3 X (1) dL_isSo_203 (by decide) rfl (by decide) rfl ?_
      refine aw_ild6 X dL_isSo_206 rfl ?_
      refine aw_ald0 X dL_isSo_208 rfl ?_
      refine aw_ild7 X dL_isSo_209 rfl ?_
      refine aw_bipush X (6) dL_isSo_211 (by decide) rfl ?_
      refine aw_callV X dL_isSo_213 rfl (r_fig X.1 w hxk hk (by decide) (fv6 _ _ _)) cmX6_ofFigure ml_L_37 rfl w.1 rfl rfl (Nat.le_of_ble_eq_true rfl) ⟨Nat.le_of_ble_eq_true rfl, Nat.le_of_ble_eq_true rfl⟩ (aw_rs ?_)
      refine aw_iadd X dL_isSo_216 rfl ?_
      refine aw_ist6 X dL_isSo_217 rfl (by decide) rfl ?_
      refine aw_ild2 X dL_isSo_219 rfl ?_
      refine aw_iconst X (1) dL_isSo_220 (by decide) rfl ?_
      refine aw_ald0 X dL_isSo_221 rfl ?_
      refine aw_ild7 X dL_isSo_222 rfl ?_
      refine aw_iconst X (0) dL_isSo_224 (by decide) rfl ?_
      refine aw_callV X dL_isSo_225 rfl (r_fig X.1 w hxk hk (by decide) (fv0 _ _ _)) cmX6_ofFigure ml_L_37 rfl w.1 rfl rfl (Nat.le_of_ble_eq_true rfl) ⟨Nat.le_of_ble_eq_true rfl, Nat.le_of_ble_eq_true rfl⟩ (aw_rs ?_)
      refine aw_ishl X dL_isSo_228 rfl ?_
      refine aw_ior X dL_isSo_229 rfl ?_
      refine aw_ist2 X dL_isSo_230 rfl (by decide) rfl ?_
      refine aw_iinc7 X (1) dL_isSo_231 (by decide) rfl (by decide) rfl ?_
      refine aw_goto (n := 16) X dL_isSo_234 rfl ?_
      exact ih _ _ _ _ _ _ _ _ (x + 1) _ _ _ _ _ (nx hxk) (by rw [hI2]; exact (if_pos h3).symm) (by rw [hI3]; exact (if_pos h3).symm) (by rw [hI4]; exact (if_pos e3).symm) (by rw [hI5]; exact (if_neg (by rw [e3]; decide)).symm) (by rw [hI6]; exact (if_pos h3).symm)
    · have h3 : ¬ σ.F k 3 = 0 := by rw [e3]; decide
      refine aw_ist8 X dL_isSo_29 rfl (by decide) rfl ?_
      refine aw_ald0 X dL_isSo_31 rfl ?_
      refine aw_ild7 X dL_isSo_32 rfl ?_
      refine aw_iconst X (4) dL_isSo_34 (by decide) rfl ?_
      refine aw_callV X dL_isSo_35 rfl (r_fig X.1 w hxk hk (by decide) (fv4 _ _ _)) cmX6_ofFigure ml_L_37 rfl w.1 rfl rfl (Nat.le_of_ble_eq_true rfl) ⟨Nat.le_of_ble_eq_true rfl, Nat.le_of_ble_eq_true rfl⟩ (aw_rs ?_)
      refine aw_ist9 X dL_isSo_38 rfl (by decide) rfl ?_
      refine aw_ald0 X dL_isSo_40 rfl ?_
      refine aw_ild7 X dL_isSo_41 rfl ?_
      refine aw_iconst X (5) dL_isSo_43 (by decide) rfl ?_
      refine aw_callV X dL_isSo_44 rfl (r_fig X.1 w hxk hk (by decide) (fv5 _ _ _)) cmX6_ofFigure ml_L_37 rfl w.1 rfl rfl (Nat.le_of_ble_eq_true rfl) ⟨Nat.le_of_ble_eq_true rfl, Nat.le_of_ble_eq_true rfl⟩ (aw_rs ?_)
      refine aw_ist10 X dL_isSo_47 rfl (by decide) rfl ?_
      refine aw_ild8 X dL_isSo_49 rfl ?_
      refine aw_iconst X (2) dL_isSo_51 (by decide) rfl ?_
      refine aw_icmp_ne (n2 := 58) X dL_isSo_52 rfl rfl (fun c52 => ?_) (fun c52 => absurd c52 (by rw [e3]; decide))
      refine aw_ild8 X dL_isSo_58 rfl ?_
      refine aw_iconst X (3) dL_isSo_60 (by decide) rfl ?_
      refine aw_icmp_ne (n2 := 67) X dL_isSo_61 rfl rfl (fun c61 => absurd e3 c61) (fun c61 => ?_)
      refine aw_iinc5 X (1) dL_isSo_64 (by decide) rfl (by decide) rfl ?_
      refine aw_ild8 X dL_isSo_67 rfl ?_
      refine aw_iconst X (2) dL_isSo_69 (by decide) rfl ?_
      refine aw_icmp_ne (n2 := 79) X dL_isSo_70 rfl rfl (fun c70 => ?_) (fun c70 => absurd c70 (by rw [e3]; decide))
      refine aw_ild8 X dL_isSo_79 rfl ?_
      refine aw_iconst X (3) dL_isSo_81 (by decide) rfl ?_
      refine aw_icmp_ne (n2 := 91) X dL_isSo_82 rfl rfl (fun c82 => absurd e3 c82) (fun c82 => ?_)
      refine aw_ild9 X dL_isSo_85 rfl ?_
      refine aw_iconst X (4) dL_isSo_87 (by decide) rfl ?_
      refine aw_icmp_lt (n2 := 129) X dL_isSo_88 rfl rfl (fun c88 => absurd c88 (Int32.not_lt.mpr (hrx.2 e3))) (fun c88 => ?_)
      refine aw_ild8 X dL_isSo_91 rfl ?_
      refine aw_if_le (n2 := 107) X dL_isSo_93 rfl rfl (fun c93 => absurd c93 (by rw [e3]; decide)) (fun c93 => ?_)
      refine aw_ald0 X dL_isSo_96 rfl ?_
      refine aw_ild9 X dL_isSo_97 rfl ?_
      refine aw_callV X dL_isSo_99 rfl (r_at X.1 w e4) cmX6_at ml_L_63 rfl w.1 rfl rfl (Nat.le_of_ble_eq_true rfl) ⟨Nat.le_of_ble_eq_true rfl, Nat.le_of_ble_eq_true rfl⟩ (aw_rs ?_)
      refine aw_ild7 X dL_isSo_102 rfl ?_
      refine aw_icmp_ne (n2 := 129) X dL_isSo_104 rfl rfl (fun c104 => absurd ((at_fig hE hk h3).trans hxk.symm) c104) (fun c104 => ?_)
      refine aw_ild8 X dL_isSo_107 rfl ?_
      refine aw_if_ne (n2 := 118) X dL_isSo_109 rfl rfl (fun c109 => ?_) (fun c109 => absurd c109 h3)
      refine aw_ild8 X dL_isSo_118 rfl ?_
      refine aw_iconst X (2) dL_isSo_120 (by decide) rfl ?_
      refine aw_icmp_ge (n2 := 131) X dL_isSo_121 rfl rfl (fun c121 => ?_) (fun c121 => absurd (by rw [e3]; decide) c121)
      refine aw_ald0 X dL_isSo_131 rfl ?_
      refine aw_ild7 X dL_isSo_132 rfl ?_
      refine aw_bipush X (6) dL_isSo_134 (by decide) rfl ?_
      refine aw_callV X dL_isSo_136 rfl (r_fig X.1 w hxk hk (by decide) (fv6 _ _ _)) cmX6_ofFigure ml_L_37 rfl w.1 rfl rfl (Nat.le_of_ble_eq_true rfl) ⟨Nat.le_of_ble_eq_true rfl, Nat.le_of_ble_eq_true rfl⟩ (aw_rs ?_)
      refine aw_ald0 X dL_isSo_139 rfl ?_
      refine aw_ild7 X dL_isSo_140 rfl ?_
      refine aw_iconst X (1) dL_isSo_142 (by decide) rfl ?_
      refine aw_callV X dL_isSo_143 rfl (r_fig X.1 w hxk hk (by decide) (fv1 _ _ _)) cmX6_ofFigure ml_L_37 rfl w.1 rfl rfl (Nat.le_of_ble_eq_true rfl) ⟨Nat.le_of_ble_eq_true rfl, Nat.le_of_ble_eq_true rfl⟩ (aw_rs ?_)
      refine aw_icmp_lt (n2 := 193) X dL_isSo_146 rfl rfl (fun c146 => absurd c146 (by rw [es, ea]; exact nI_nlt hav (by omega))) (fun c146 => ?_)
      refine aw_ald0 X dL_isSo_149 rfl ?_
      refine aw_ild7 X dL_isSo_150 rfl ?_
      refine aw_bipush X (6) dL_isSo_152 (by decide) rfl ?_
      refine aw_callV X dL_isSo_154 rfl (r_fig X.1 w hxk hk (by decide) (fv6 _ _ _)) cmX6_ofFigure ml_L_37 rfl w.1 rfl rfl (Nat.le_of_ble_eq_true rfl) ⟨Nat.le_of_ble_eq_true rfl, Nat.le_of_ble_eq_true rfl⟩ (aw_rs ?_)
      refine aw_ald0 X dL_isSo_157 rfl ?_
      refine aw_ild7 X dL_isSo_158 rfl ?_
      refine aw_iconst X (1) dL_isSo_160 (by decide) rfl ?_
      refine aw_callV X dL_isSo_161 rfl (r_fig X.1 w hxk hk (by decide) (fv1 _ _ _)) cmX6_ofFigure ml_L_37 rfl w.1 rfl rfl (Nat.le_of_ble_eq_true rfl) ⟨Nat.le_of_ble_eq_true rfl, Nat.le_of_ble_eq_true rfl⟩ (aw_rs ?_)
      refine aw_ild1 X dL_isSo_164 rfl ?_
      refine aw_imul X dL_isSo_165 rfl ?_
      refine aw_ild1 X dL_isSo_166 rfl ?_
      refine aw_ild10 X dL_isSo_167 rfl ?_
      refine aw_isub X dL_isSo_169 rfl ?_
      refine aw_idiv X dL_isSo_170 (hz) rfl ?_
      refine aw_icmp_ne (n2 := 193) X dL_isSo_171 rfl rfl (fun c171 => absurd (es.trans ed.symm) c171) (fun c171 => ?_)
      refine aw_ald0 X dL_isSo_174 rfl ?_
      refine aw_ild7 X dL_isSo_175 rfl ?_
      refine aw_iconst X (2) dL_isSo_177 (by decide) rfl ?_
      refine aw_callV X dL_isSo_178 rfl (r_fig X.1 w hxk hk (by decide) (fv2 _ _ _)) cmX6_ofFigure ml_L_37 rfl w.1 rfl rfl (Nat.le_of_ble_eq_true rfl) ⟨Nat.le_of_ble_eq_true rfl, Nat.le_of_ble_eq_true rfl⟩ (aw_rs ?_)
      refine aw_bipush X (100) dL_isSo_181 (by decide) rfl ?_
      refine aw_icmp_gt (n2 := 193) X dL_isSo_183 rfl rfl (fun c183 => absurd c183 (Int32.not_lt.mpr hrow.2.2.1.2)) (fun c183 => ?_)
      refine aw_ild10 X dL_isSo_186 rfl ?_
      refine aw_bipush X (15) dL_isSo_188 (by decide) rfl ?_
      refine aw_icmp_le (n2 := 195) X dL_isSo_190 rfl rfl (fun c190 => ?_) (fun c190 => absurd e5.2 c190)
      refine aw_ild8 X dL_isSo_195 rfl ?_
      refine aw_if_ne (n2 := 203) X dL_isSo_197 rfl rfl (fun c197 => ?_) (fun c197 => absurd c197 h3)
      refine aw_iinc3 X (1) dL_isSo_203 (by decide) rfl (by decide) rfl ?_
      refine aw_ild6 X dL_isSo_206 rfl ?_
      refine aw_ald0 X dL_isSo_208 rfl ?_
      refine aw_ild7 X dL_isSo_209 rfl ?_
      refine aw_bipush X (6) dL_isSo_211 (by decide) rfl ?_
      refine aw_callV X dL_isSo_213 rfl (r_fig X.1 w hxk hk (by decide) (fv6 _ _ _)) cmX6_ofFigure ml_L_37 rfl w.1 rfl rfl (Nat.le_of_ble_eq_true rfl) ⟨Nat.le_of_ble_eq_true rfl, Nat.le_of_ble_eq_true rfl⟩ (aw_rs ?_)
      refine aw_iadd X dL_isSo_216 rfl ?_
      refine aw_ist6 X dL_isSo_217 rfl (by decide) rfl ?_
      refine aw_ild2 X dL_isSo_219 rfl ?_
      refine aw_iconst X (1) dL_isSo_220 (by decide) rfl ?_
      refine aw_ald0 X dL_isSo_221 rfl ?_
      refine aw_ild7 X dL_isSo_222 rfl ?_
      refine aw_iconst X (0) dL_isSo_224 (by decide) rfl ?_
      refine aw_callV X dL_isSo_225 rfl (r_fig X.1 w hxk hk (by decide) (fv0 _ _ _)) cmX6_ofFigure ml_L_37 rfl w.1 rfl rfl (Nat.le_of_ble_eq_true rfl) ⟨Nat.le_of_ble_eq_true rfl, Nat.le_of_ble_eq_true rfl⟩ (aw_rs ?_)
      refine aw_ishl X dL_isSo_228 rfl ?_
      refine aw_ior X dL_isSo_229 rfl ?_
      refine aw_ist2 X dL_isSo_230 rfl (by decide) rfl ?_
      refine aw_iinc7 X (1) dL_isSo_231 (by decide) rfl (by decide) rfl ?_
      refine aw_goto (n := 16) X dL_isSo_234 rfl ?_
      exact ih _ _ _ _ _ _ _ _ (x + 1) _ _ _ _ _ (nx hxk) (by rw [hI2]; exact (if_pos h3).symm) (by rw [hI3]; exact (if_pos h3).symm) (by rw [hI4]; exact (if_neg (by rw [e3]; decide)).symm) (by rw [hI5]; exact (if_pos e3).symm) (by rw [hI6]; exact (if_pos h3).symm)
