/-! THE LAW'S CASES -/
set_option maxHeartbeats 4000000 in
set_option maxRecDepth 100000 in
theorem ca_person {p : Program} {l : Launch} {e : Env} {s : State} {m : MethodId} {below : List Frame} {meth : Method} {c : Code} {Q : State → Prop} {a0 : Array Value} {G : GG} {h0 h : AH} {b L : Nat} {xs : Nat → Int32} {ke mo out J bc bs Cr Dr : Nat} {σ : NS} {y5 y6 y7 y8 : Option Value} (X : MX p l s m meth c s a0 G cL_law "KelirnightLaw" 9) (hN : NX s) (SX : va_X b L xs s s.heap ∧ b < s.heap.size) (hz0 : ∀ b t x, h0 b = some (t, x) → t = 0) (hL : L ≤ 3584) (hJ : J + 7 ≤ L) (I : LawI G ke mo out h σ) (hb : Cr + 1195 + 25 * (540 - iN σ.mi) ≤ bc) (hd : Dr + 4582 + 100 * (540 - iN σ.mi) ≤ bs) (k : ∀ (h2 : AH) (σ2 : NS) (b2 d2 : Nat) (z5 z6 z7 z8 : Option Value), LawI G ke mo out h2 σ2 → Cr + 25 * (540 - iN σ2.mi) ≤ b2 → Dr + 100 * (540 - iN σ2.mi) ≤ d2 → AW p l e room_1 s m #[.ref b] below meth c Q s G 9 1 h0 h2 b2 d2 1908 [some (.ref b), some (.ref ke), some (.ref mo), some (.ref out), some (.int (nI J)), z5, z6, z7, z8] []) : AW p l e room_1 s m #[.ref b] below meth c Q s G 9 1 h0 h bc bs 172 [some (.ref b), some (.ref ke), some (.ref mo), some (.ref out), some (.int (nI J)), y5, y6, y7, y8] [] := by
  obtain ⟨⟨A, w⟩, ⟨A9, t, sm, hm⟩, ⟨g, ho⟩, ez, hv⟩ := I
  by_cases c0 : xs (J + 6) = 0
  · have hadv : iN σ.mi ≤ iN (sp_person σ (xs (J + 1)) (xs (J + 2)) (xs (J + 3)) (xs (J + 4)) (xs (J + 5)) 0).2.2.mi := by rw [mi_person]; exact Nat.le_refl _
    have hIV : IV (sp_person σ (xs (J + 1)) (xs (J + 2)) (xs (J + 3)) (xs (J + 4)) (xs (J + 5)) 0).2.2 := iv_person hv (xs (J + 1)) (xs (J + 2)) (xs (J + 3)) (xs (J + 4)) (xs (J + 5)) 0 (Or.inl rfl)
    have h540 := hIV.iN540
    have hlt := lt_person σ (xs (J + 1)) (xs (J + 2)) (xs (J + 3)) (xs (J + 4)) (xs (J + 5)) 0
    obtain ⟨b2, hb2⟩ : ∃ b2, b2 = Cr + 25 * (540 - iN (sp_person σ (xs (J + 1)) (xs (J + 2)) (xs (J + 3)) (xs (J + 4)) (xs (J + 5)) 0).2.2.mi) := ⟨_, rfl⟩
    obtain ⟨d2, hd2⟩ : ∃ d2, d2 = Dr + 100 * (540 - iN (sp_person σ (xs (J + 1)) (xs (J + 2)) (xs (J + 3)) (xs (J + 4)) (xs (J + 5)) 0).2.2.mi) := ⟨_, rfl⟩
    refine AW.mono (bc2 := b2 + 2 + 2) (bs2 := d2 + 21 + 21) (by omega) (by omega) ?_
    refine aw_ald1 X dL_law_172 rfl ?_
    refine aw_ald0 X dL_law_173 rfl ?_
    refine aw_ild4 X dL_law_174 rfl ?_
    refine aw_iconst X (1) dL_law_176 (by decide) rfl ?_
    refine aw_iadd X dL_law_177 rfl ?_
    refine aw_sld X SX (J + 1) dL_law_178 rfl (nI_plus J 1) (by omega) hL ?_
    refine aw_ald0 X dL_law_179 rfl ?_
    refine aw_ild4 X dL_law_180 rfl ?_
    refine aw_iconst X (2) dL_law_182 (by decide) rfl ?_
    refine aw_iadd X dL_law_183 rfl ?_
    refine aw_sld X SX (J + 2) dL_law_184 rfl (nI_plus J 2) (by omega) hL ?_
    refine aw_ald0 X dL_law_185 rfl ?_
    refine aw_ild4 X dL_law_186 rfl ?_
    refine aw_iconst X (3) dL_law_188 (by decide) rfl ?_
    refine aw_iadd X dL_law_189 rfl ?_
    refine aw_sld X SX (J + 3) dL_law_190 rfl (nI_plus J 3) (by omega) hL ?_
    refine aw_ald0 X dL_law_191 rfl ?_
    refine aw_ild4 X dL_law_192 rfl ?_
    refine aw_iconst X (4) dL_law_194 (by decide) rfl ?_
    refine aw_iadd X dL_law_195 rfl ?_
    refine aw_sld X SX (J + 4) dL_law_196 rfl (nI_plus J 4) (by omega) hL ?_
    refine aw_ald0 X dL_law_197 rfl ?_
    refine aw_ild4 X dL_law_198 rfl ?_
    refine aw_iconst X (5) dL_law_200 (by decide) rfl ?_
    refine aw_iadd X dL_law_201 rfl ?_
    refine aw_sld X SX (J + 5) dL_law_202 rfl (nI_plus J 5) (by omega) hL ?_
    refine aw_ald0 X dL_law_203 rfl ?_
    refine aw_ild4 X dL_law_204 rfl ?_
    refine aw_bipush X (6) dL_law_206 (by decide) rfl ?_
    refine aw_iadd X dL_law_208 rfl ?_
    refine aw_sld X SX (J + 6) dL_law_209 rfl (nI_plus J 6) (by omega) hL ?_
    refine aw_if_eq (n2 := 217) X dL_law_210 rfl rfl (fun _ => ?_) (fun c9 => absurd c0 c9)
    refine aw_iconst X (0) dL_law_217 (by decide) rfl ?_
    refine aw_ald3 X dL_law_218 rfl ?_
    refine aw_callSO X dL_law_219 rfl (k_L_person X.1 hN w ez ho hv (xs (J + 1)) (xs (J + 2)) (xs (J + 3)) (xs (J + 4)) (xs (J + 5)) 0 rfl) cmhL_person ml_L_99 rfl rfl (Nat.le_of_ble_eq_true rfl) ⟨Nat.le_of_ble_eq_true rfl, Nat.le_of_ble_eq_true rfl⟩ (fun f h2 g9 => f.unhide (h0_out hz0 f (by decide) ho) g9) (fun r h2 hq hf => ?_)
    obtain ⟨rfl, ⟨A2, w2⟩, g2, ho2, hg⟩ := hq
    have fr := hid_fr ho hf
    have hm2 : MoW G h2 2 mo A9 t sm σ := hm.tagK (fun a x e => fr a 2 x e (by decide) (by decide)) ((fr _ _ _ ez.1 (by decide) (by decide)).trans ez.1.symm)
    have ez2 : EZ G h2 := ⟨fr _ _ _ ez.1 (by decide) (by decide), fr _ _ _ ez.2 (by decide) (by decide)⟩
    refine aw_ist5 X dL_law_222 rfl (by decide) rfl ?_
    refine aw_tg (tg2 := 2) hz0 (by decide) ?_
    refine aw_ald2 X dL_law_224 rfl ?_
    refine aw_ald0 X dL_law_225 rfl ?_
    refine aw_ild4 X dL_law_226 rfl ?_
    refine aw_iconst X (1) dL_law_228 (by decide) rfl ?_
    refine aw_iadd X dL_law_229 rfl ?_
    refine aw_sld X SX (J + 1) dL_law_230 rfl (nI_plus J 1) (by omega) hL ?_
    refine aw_ald0 X dL_law_231 rfl ?_
    refine aw_ild4 X dL_law_232 rfl ?_
    refine aw_iconst X (2) dL_law_234 (by decide) rfl ?_
    refine aw_iadd X dL_law_235 rfl ?_
    refine aw_sld X SX (J + 2) dL_law_236 rfl (nI_plus J 2) (by omega) hL ?_
    refine aw_ald0 X dL_law_237 rfl ?_
    refine aw_ild4 X dL_law_238 rfl ?_
    refine aw_iconst X (3) dL_law_240 (by decide) rfl ?_
    refine aw_iadd X dL_law_241 rfl ?_
    refine aw_sld X SX (J + 3) dL_law_242 rfl (nI_plus J 3) (by omega) hL ?_
    refine aw_ald0 X dL_law_243 rfl ?_
    refine aw_ild4 X dL_law_244 rfl ?_
    refine aw_iconst X (4) dL_law_246 (by decide) rfl ?_
    refine aw_iadd X dL_law_247 rfl ?_
    refine aw_sld X SX (J + 4) dL_law_248 rfl (nI_plus J 4) (by omega) hL ?_
    refine aw_ald0 X dL_law_249 rfl ?_
    refine aw_ild4 X dL_law_250 rfl ?_
    refine aw_iconst X (5) dL_law_252 (by decide) rfl ?_
    refine aw_iadd X dL_law_253 rfl ?_
    refine aw_sld X SX (J + 5) dL_law_254 rfl (nI_plus J 5) (by omega) hL ?_
    refine aw_ald0 X dL_law_255 rfl ?_
    refine aw_ild4 X dL_law_256 rfl ?_
    refine aw_bipush X (6) dL_law_258 (by decide) rfl ?_
    refine aw_iadd X dL_law_260 rfl ?_
    refine aw_sld X SX (J + 6) dL_law_261 rfl (nI_plus J 6) (by omega) hL ?_
    refine aw_if_eq (n2 := 269) X dL_law_262 rfl rfl (fun _ => ?_) (fun c9 => absurd c0 c9)
    refine aw_iconst X (0) dL_law_269 (by decide) rfl ?_
    refine aw_callV X dL_law_270 rfl (k_X7_person X.1 (by decide) hm2 (xs (J + 1)) (xs (J + 2)) (xs (J + 3)) (xs (J + 4)) (xs (J + 5)) 0 (Or.inl rfl)) cmX7_person ml_L_104 rfl hm2.1 rfl rfl (Nat.le_of_ble_eq_true rfl) ⟨Nat.le_of_ble_eq_true rfl, Nat.le_of_ble_eq_true rfl⟩ (fun r h3 hq3 hf3 => ?_)
    obtain ⟨rfl, A3, sm3, w3⟩ := hq3
    have ho3 := hf3.1 _ _ _ ho2 (by decide)
    have w4 := w2.tagK (fun a x e => hf3.1 _ _ _ e (by decide)) ((hf3.1 _ _ _ ez2.1 (by decide)).trans ez2.1.symm)
    have ez3 := ez2.fr hf3 (by decide)
    refine aw_ist6 X dL_law_273 rfl (by decide) rfl ?_
    refine aw_ald2 X dL_law_275 rfl ?_
    refine aw_callV X dL_law_276 rfl (k_X7_thrown X.1 w3) cmX7_thrown ml_L_105 rfl w3.1 rfl rfl (Nat.le_of_ble_eq_true rfl) ⟨Nat.le_of_ble_eq_true rfl, Nat.le_of_ble_eq_true rfl⟩ (aw_rs ?_)
    refine aw_tg (tg2 := 1) hz0 (by decide) ?_
    refine aw_ild5 X dL_law_279 rfl ?_
    refine aw_icmp_eq (n2 := 286) X dL_law_281 rfl rfl (fun _ => ?_) (fun c9 => absurd rfl c9)
    refine aw_ild5 X dL_law_286 rfl ?_
    refine aw_if_ne (n2 := 303) X dL_law_288 rfl rfl (fun c1 => ?_) (fun c1 => ?_)
    · refine aw_goto (n := 1908) X dL_law_303 rfl ?_
      exact k h3 _ _ _ _ _ _ _ ⟨⟨A2, w4⟩, ⟨A3, _, sm3, w3⟩, ⟨g2, ho3⟩, ez3, hIV⟩ (Nat.le_of_eq hb2.symm) (Nat.le_of_eq hd2.symm)
    · have hgv := hg (nI_z hlt c1)
      refine aw_ald3 X dL_law_291 rfl ?_
      refine aw_iconst X (0) dL_law_292 (by decide) rfl ?_
      refine aw_lald X (0) dL_law_293 rfl ho3 rfl (by decide) (by decide) ?_
      refine aw_ild6 X dL_law_294 rfl ?_
      refine aw_i2l X dL_law_296 rfl ?_
      refine aw_lcmp X dL_law_297 rfl ?_
      refine aw_if_eq (n2 := 303) X dL_law_298 rfl rfl (fun _ => ?_) (fun c9 => absurd (lgc_eq hgv) c9)
      refine aw_goto (n := 1908) X dL_law_303 rfl ?_
      exact k h3 _ _ _ _ _ _ _ ⟨⟨A2, w4⟩, ⟨A3, _, sm3, w3⟩, ⟨g2, ho3⟩, ez3, hIV⟩ (Nat.le_of_eq hb2.symm) (Nat.le_of_eq hd2.symm)
  · have hadv : iN σ.mi ≤ iN (sp_person σ (xs (J + 1)) (xs (J + 2)) (xs (J + 3)) (xs (J + 4)) (xs (J + 5)) 1).2.2.mi := by rw [mi_person]; exact Nat.le_refl _
    have hIV : IV (sp_person σ (xs (J + 1)) (xs (J + 2)) (xs (J + 3)) (xs (J + 4)) (xs (J + 5)) 1).2.2 := iv_person hv (xs (J + 1)) (xs (J + 2)) (xs (J + 3)) (xs (J + 4)) (xs (J + 5)) 1 (Or.inr rfl)
    have h540 := hIV.iN540
    have hlt := lt_person σ (xs (J + 1)) (xs (J + 2)) (xs (J + 3)) (xs (J + 4)) (xs (J + 5)) 1
    obtain ⟨b2, hb2⟩ : ∃ b2, b2 = Cr + 25 * (540 - iN (sp_person σ (xs (J + 1)) (xs (J + 2)) (xs (J + 3)) (xs (J + 4)) (xs (J + 5)) 1).2.2.mi) := ⟨_, rfl⟩
    obtain ⟨d2, hd2⟩ : ∃ d2, d2 = Dr + 100 * (540 - iN (sp_person σ (xs (J + 1)) (xs (J + 2)) (xs (J + 3)) (xs (J + 4)) (xs (J + 5)) 1).2.2.mi) := ⟨_, rfl⟩
    refine AW.mono (bc2 := b2 + 2 + 2) (bs2 := d2 + 21 + 21) (by omega) (by omega) ?_
    refine aw_ald1 X dL_law_172 rfl ?_
    refine aw_ald0 X dL_law_173 rfl ?_
    refine aw_ild4 X dL_law_174 rfl ?_
    refine aw_iconst X (1) dL_law_176 (by decide) rfl ?_
    refine aw_iadd X dL_law_177 rfl ?_
    refine aw_sld X SX (J + 1) dL_law_178 rfl (nI_plus J 1) (by omega) hL ?_
    refine aw_ald0 X dL_law_179 rfl ?_
    refine aw_ild4 X dL_law_180 rfl ?_
    refine aw_iconst X (2) dL_law_182 (by decide) rfl ?_
    refine aw_iadd X dL_law_183 rfl ?_
    refine aw_sld X SX (J + 2) dL_law_184 rfl (nI_plus J 2) (by omega) hL ?_
    refine aw_ald0 X dL_law_185 rfl ?_
    refine aw_ild4 X dL_law_186 rfl ?_
    refine aw_iconst X (3) dL_law_188 (by decide) rfl ?_
    refine aw_iadd X dL_law_189 rfl ?_
    refine aw_sld X SX (J + 3) dL_law_190 rfl (nI_plus J 3) (by omega) hL ?_
    refine aw_ald0 X dL_law_191 rfl ?_
    refine aw_ild4 X dL_law_192 rfl ?_
    refine aw_iconst X (4) dL_law_194 (by decide) rfl ?_
    refine aw_iadd X dL_law_195 rfl ?_
    refine aw_sld X SX (J + 4) dL_law_196 rfl (nI_plus J 4) (by omega) hL ?_
    refine aw_ald0 X dL_law_197 rfl ?_
    refine aw_ild4 X dL_law_198 rfl ?_
    refine aw_iconst X (5) dL_law_200 (by decide) rfl ?_
    refine aw_iadd X dL_law_201 rfl ?_
    refine aw_sld X SX (J + 5) dL_law_202 rfl (nI_plus J 5) (by omega) hL ?_
    refine aw_ald0 X dL_law_203 rfl ?_
    refine aw_ild4 X dL_law_204 rfl ?_
    refine aw_bipush X (6) dL_law_206 (by decide) rfl ?_
    refine aw_iadd X dL_law_208 rfl ?_
    refine aw_sld X SX (J + 6) dL_law_209 rfl (nI_plus J 6) (by omega) hL ?_
    refine aw_if_eq (n2 := 217) X dL_law_210 rfl rfl (fun c9 => absurd c9 c0) (fun _ => ?_)
    refine aw_iconst X (1) dL_law_213 (by decide) rfl ?_
    refine aw_goto (n := 218) X dL_law_214 rfl ?_
    refine aw_ald3 X dL_law_218 rfl ?_
    refine aw_callSO X dL_law_219 rfl (k_L_person X.1 hN w ez ho hv (xs (J + 1)) (xs (J + 2)) (xs (J + 3)) (xs (J + 4)) (xs (J + 5)) 1 rfl) cmhL_person ml_L_99 rfl rfl (Nat.le_of_ble_eq_true rfl) ⟨Nat.le_of_ble_eq_true rfl, Nat.le_of_ble_eq_true rfl⟩ (fun f h2 g9 => f.unhide (h0_out hz0 f (by decide) ho) g9) (fun r h2 hq hf => ?_)
    obtain ⟨rfl, ⟨A2, w2⟩, g2, ho2, hg⟩ := hq
    have fr := hid_fr ho hf
    have hm2 : MoW G h2 2 mo A9 t sm σ := hm.tagK (fun a x e => fr a 2 x e (by decide) (by decide)) ((fr _ _ _ ez.1 (by decide) (by decide)).trans ez.1.symm)
    have ez2 : EZ G h2 := ⟨fr _ _ _ ez.1 (by decide) (by decide), fr _ _ _ ez.2 (by decide) (by decide)⟩
    refine aw_ist5 X dL_law_222 rfl (by decide) rfl ?_
    refine aw_tg (tg2 := 2) hz0 (by decide) ?_
    refine aw_ald2 X dL_law_224 rfl ?_
    refine aw_ald0 X dL_law_225 rfl ?_
    refine aw_ild4 X dL_law_226 rfl ?_
    refine aw_iconst X (1) dL_law_228 (by decide) rfl ?_
    refine aw_iadd X dL_law_229 rfl ?_
    refine aw_sld X SX (J + 1) dL_law_230 rfl (nI_plus J 1) (by omega) hL ?_
    refine aw_ald0 X dL_law_231 rfl ?_
    refine aw_ild4 X dL_law_232 rfl ?_
    refine aw_iconst X (2) dL_law_234 (by decide) rfl ?_
    refine aw_iadd X dL_law_235 rfl ?_
    refine aw_sld X SX (J + 2) dL_law_236 rfl (nI_plus J 2) (by omega) hL ?_
    refine aw_ald0 X dL_law_237 rfl ?_
    refine aw_ild4 X dL_law_238 rfl ?_
    refine aw_iconst X (3) dL_law_240 (by decide) rfl ?_
    refine aw_iadd X dL_law_241 rfl ?_
    refine aw_sld X SX (J + 3) dL_law_242 rfl (nI_plus J 3) (by omega) hL ?_
    refine aw_ald0 X dL_law_243 rfl ?_
    refine aw_ild4 X dL_law_244 rfl ?_
    refine aw_iconst X (4) dL_law_246 (by decide) rfl ?_
    refine aw_iadd X dL_law_247 rfl ?_
    refine aw_sld X SX (J + 4) dL_law_248 rfl (nI_plus J 4) (by omega) hL ?_
    refine aw_ald0 X dL_law_249 rfl ?_
    refine aw_ild4 X dL_law_250 rfl ?_
    refine aw_iconst X (5) dL_law_252 (by decide) rfl ?_
    refine aw_iadd X dL_law_253 rfl ?_
    refine aw_sld X SX (J + 5) dL_law_254 rfl (nI_plus J 5) (by omega) hL ?_
    refine aw_ald0 X dL_law_255 rfl ?_
    refine aw_ild4 X dL_law_256 rfl ?_
    refine aw_bipush X (6) dL_law_258 (by decide) rfl ?_
    refine aw_iadd X dL_law_260 rfl ?_
    refine aw_sld X SX (J + 6) dL_law_261 rfl (nI_plus J 6) (by omega) hL ?_
    refine aw_if_eq (n2 := 269) X dL_law_262 rfl rfl (fun c9 => absurd c9 c0) (fun _ => ?_)
    refine aw_iconst X (1) dL_law_265 (by decide) rfl ?_
    refine aw_goto (n := 270) X dL_law_266 rfl ?_
    refine aw_callV X dL_law_270 rfl (k_X7_person X.1 (by decide) hm2 (xs (J + 1)) (xs (J + 2)) (xs (J + 3)) (xs (J + 4)) (xs (J + 5)) 1 (Or.inr rfl)) cmX7_person ml_L_104 rfl hm2.1 rfl rfl (Nat.le_of_ble_eq_true rfl) ⟨Nat.le_of_ble_eq_true rfl, Nat.le_of_ble_eq_true rfl⟩ (fun r h3 hq3 hf3 => ?_)
    obtain ⟨rfl, A3, sm3, w3⟩ := hq3
    have ho3 := hf3.1 _ _ _ ho2 (by decide)
    have w4 := w2.tagK (fun a x e => hf3.1 _ _ _ e (by decide)) ((hf3.1 _ _ _ ez2.1 (by decide)).trans ez2.1.symm)
    have ez3 := ez2.fr hf3 (by decide)
    refine aw_ist6 X dL_law_273 rfl (by decide) rfl ?_
    refine aw_ald2 X dL_law_275 rfl ?_
    refine aw_callV X dL_law_276 rfl (k_X7_thrown X.1 w3) cmX7_thrown ml_L_105 rfl w3.1 rfl rfl (Nat.le_of_ble_eq_true rfl) ⟨Nat.le_of_ble_eq_true rfl, Nat.le_of_ble_eq_true rfl⟩ (aw_rs ?_)
    refine aw_tg (tg2 := 1) hz0 (by decide) ?_
    refine aw_ild5 X dL_law_279 rfl ?_
    refine aw_icmp_eq (n2 := 286) X dL_law_281 rfl rfl (fun _ => ?_) (fun c9 => absurd rfl c9)
    refine aw_ild5 X dL_law_286 rfl ?_
    refine aw_if_ne (n2 := 303) X dL_law_288 rfl rfl (fun c1 => ?_) (fun c1 => ?_)
    · refine aw_goto (n := 1908) X dL_law_303 rfl ?_
      exact k h3 _ _ _ _ _ _ _ ⟨⟨A2, w4⟩, ⟨A3, _, sm3, w3⟩, ⟨g2, ho3⟩, ez3, hIV⟩ (Nat.le_of_eq hb2.symm) (Nat.le_of_eq hd2.symm)
    · have hgv := hg (nI_z hlt c1)
      refine aw_ald3 X dL_law_291 rfl ?_
      refine aw_iconst X (0) dL_law_292 (by decide) rfl ?_
      refine aw_lald X (0) dL_law_293 rfl ho3 rfl (by decide) (by decide) ?_
      refine aw_ild6 X dL_law_294 rfl ?_
      refine aw_i2l X dL_law_296 rfl ?_
      refine aw_lcmp X dL_law_297 rfl ?_
      refine aw_if_eq (n2 := 303) X dL_law_298 rfl rfl (fun _ => ?_) (fun c9 => absurd (lgc_eq hgv) c9)
      refine aw_goto (n := 1908) X dL_law_303 rfl ?_
      exact k h3 _ _ _ _ _ _ _ ⟨⟨A2, w4⟩, ⟨A3, _, sm3, w3⟩, ⟨g2, ho3⟩, ez3, hIV⟩ (Nat.le_of_eq hb2.symm) (Nat.le_of_eq hd2.symm)
set_option maxHeartbeats 4000000 in
set_option maxRecDepth 100000 in
theorem ca_figure {p : Program} {l : Launch} {e : Env} {s : State} {m : MethodId} {below : List Frame} {meth : Method} {c : Code} {Q : State → Prop} {a0 : Array Value} {G : GG} {h0 h : AH} {b L : Nat} {xs : Nat → Int32} {ke mo out J bc bs Cr Dr : Nat} {σ : NS} {y5 y6 y7 y8 : Option Value} (X : MX p l s m meth c s a0 G cL_law "KelirnightLaw" 9) (hN : NX s) (SX : va_X b L xs s s.heap ∧ b < s.heap.size) (hz0 : ∀ b t x, h0 b = some (t, x) → t = 0) (hL : L ≤ 3584) (hJ : J + 7 ≤ L) (I : LawI G ke mo out h σ) (hb : Cr + 1195 + 25 * (540 - iN σ.mi) ≤ bc) (hd : Dr + 4582 + 100 * (540 - iN σ.mi) ≤ bs) (k : ∀ (h2 : AH) (σ2 : NS) (b2 d2 : Nat) (z5 z6 z7 z8 : Option Value), LawI G ke mo out h2 σ2 → Cr + 25 * (540 - iN σ2.mi) ≤ b2 → Dr + 100 * (540 - iN σ2.mi) ≤ d2 → AW p l e room_1 s m #[.ref b] below meth c Q s G 9 1 h0 h2 b2 d2 1908 [some (.ref b), some (.ref ke), some (.ref mo), some (.ref out), some (.int (nI J)), z5, z6, z7, z8] []) : AW p l e room_1 s m #[.ref b] below meth c Q s G 9 1 h0 h bc bs 306 [some (.ref b), some (.ref ke), some (.ref mo), some (.ref out), some (.int (nI J)), y5, y6, y7, y8] [] := by
  obtain ⟨⟨A, w⟩, ⟨A9, t, sm, hm⟩, ⟨g, ho⟩, ez, hv⟩ := I
  have hadv : iN σ.mi ≤ iN (sp_figure σ (xs (J + 1)) (xs (J + 2))).2.2.mi := by rw [mi_figure]; exact Nat.le_refl _
  have hIV : IV (sp_figure σ (xs (J + 1)) (xs (J + 2))).2.2 := iv_figure hv (xs (J + 1)) (xs (J + 2))
  have h540 := hIV.iN540
  have hlt := lt_figure σ (xs (J + 1)) (xs (J + 2))
  obtain ⟨b2, hb2⟩ : ∃ b2, b2 = Cr + 25 * (540 - iN (sp_figure σ (xs (J + 1)) (xs (J + 2))).2.2.mi) := ⟨_, rfl⟩
  obtain ⟨d2, hd2⟩ : ∃ d2, d2 = Dr + 100 * (540 - iN (sp_figure σ (xs (J + 1)) (xs (J + 2))).2.2.mi) := ⟨_, rfl⟩
  refine AW.mono (bc2 := b2 + 2 + 2) (bs2 := d2 + 21 + 22) (by omega) (by omega) ?_
  refine aw_ald1 X dL_law_306 rfl ?_
  refine aw_ald0 X dL_law_307 rfl ?_
  refine aw_ild4 X dL_law_308 rfl ?_
  refine aw_iconst X (1) dL_law_310 (by decide) rfl ?_
  refine aw_iadd X dL_law_311 rfl ?_
  refine aw_sld X SX (J + 1) dL_law_312 rfl (nI_plus J 1) (by omega) hL ?_
  refine aw_ald0 X dL_law_313 rfl ?_
  refine aw_ild4 X dL_law_314 rfl ?_
  refine aw_iconst X (2) dL_law_316 (by decide) rfl ?_
  refine aw_iadd X dL_law_317 rfl ?_
  refine aw_sld X SX (J + 2) dL_law_318 rfl (nI_plus J 2) (by omega) hL ?_
  refine aw_ald3 X dL_law_319 rfl ?_
  refine aw_callSO X dL_law_320 rfl (k_L_figure X.1 hN w ez ho (xs (J + 1)) (xs (J + 2))) cmhL_figure ml_L_108 rfl rfl (Nat.le_of_ble_eq_true rfl) ⟨Nat.le_of_ble_eq_true rfl, Nat.le_of_ble_eq_true rfl⟩ (fun f h2 g9 => f.unhide (h0_out hz0 f (by decide) ho) g9) (fun r h2 hq hf => ?_)
  obtain ⟨rfl, ⟨A2, w2⟩, g2, ho2, hg⟩ := hq
  have fr := hid_fr ho hf
  have hm2 : MoW G h2 2 mo A9 t sm σ := hm.tagK (fun a x e => fr a 2 x e (by decide) (by decide)) ((fr _ _ _ ez.1 (by decide) (by decide)).trans ez.1.symm)
  have ez2 : EZ G h2 := ⟨fr _ _ _ ez.1 (by decide) (by decide), fr _ _ _ ez.2 (by decide) (by decide)⟩
  refine aw_ist5 X dL_law_323 rfl (by decide) rfl ?_
  refine aw_tg (tg2 := 2) hz0 (by decide) ?_
  refine aw_ald2 X dL_law_325 rfl ?_
  refine aw_ald0 X dL_law_326 rfl ?_
  refine aw_ild4 X dL_law_327 rfl ?_
  refine aw_iconst X (1) dL_law_329 (by decide) rfl ?_
  refine aw_iadd X dL_law_330 rfl ?_
  refine aw_sld X SX (J + 1) dL_law_331 rfl (nI_plus J 1) (by omega) hL ?_
  refine aw_ald0 X dL_law_332 rfl ?_
  refine aw_ild4 X dL_law_333 rfl ?_
  refine aw_iconst X (2) dL_law_335 (by decide) rfl ?_
  refine aw_iadd X dL_law_336 rfl ?_
  refine aw_sld X SX (J + 2) dL_law_337 rfl (nI_plus J 2) (by omega) hL ?_
  refine aw_callV X dL_law_338 rfl (k_X7_figure X.1 (by decide) hm2 (xs (J + 1)) (xs (J + 2))) cmX7_figure ml_L_111 rfl hm2.1 rfl rfl (Nat.le_of_ble_eq_true rfl) ⟨Nat.le_of_ble_eq_true rfl, Nat.le_of_ble_eq_true rfl⟩ (fun r h3 hq3 hf3 => ?_)
  obtain ⟨rfl, A3, sm3, w3⟩ := hq3
  have ho3 := hf3.1 _ _ _ ho2 (by decide)
  have w4 := w2.tagK (fun a x e => hf3.1 _ _ _ e (by decide)) ((hf3.1 _ _ _ ez2.1 (by decide)).trans ez2.1.symm)
  have ez3 := ez2.fr hf3 (by decide)
  refine aw_ist6 X dL_law_341 rfl (by decide) rfl ?_
  refine aw_ald2 X dL_law_343 rfl ?_
  refine aw_callV X dL_law_344 rfl (k_X7_thrown X.1 w3) cmX7_thrown ml_L_105 rfl w3.1 rfl rfl (Nat.le_of_ble_eq_true rfl) ⟨Nat.le_of_ble_eq_true rfl, Nat.le_of_ble_eq_true rfl⟩ (aw_rs ?_)
  refine aw_tg (tg2 := 1) hz0 (by decide) ?_
  refine aw_ild5 X dL_law_347 rfl ?_
  refine aw_icmp_eq (n2 := 354) X dL_law_349 rfl rfl (fun _ => ?_) (fun c9 => absurd rfl c9)
  refine aw_ild5 X dL_law_354 rfl ?_
  refine aw_if_ne (n2 := 371) X dL_law_356 rfl rfl (fun c1 => ?_) (fun c1 => ?_)
  · refine aw_goto (n := 1908) X dL_law_371 rfl ?_
    exact k h3 _ _ _ _ _ _ _ ⟨⟨A2, w4⟩, ⟨A3, _, sm3, w3⟩, ⟨g2, ho3⟩, ez3, hIV⟩ (Nat.le_of_eq hb2.symm) (Nat.le_of_eq hd2.symm)
  · have hgv := hg (nI_z hlt c1)
    refine aw_ald3 X dL_law_359 rfl ?_
    refine aw_iconst X (0) dL_law_360 (by decide) rfl ?_
    refine aw_lald X (0) dL_law_361 rfl ho3 rfl (by decide) (by decide) ?_
    refine aw_ild6 X dL_law_362 rfl ?_
    refine aw_i2l X dL_law_364 rfl ?_
    refine aw_lcmp X dL_law_365 rfl ?_
    refine aw_if_eq (n2 := 371) X dL_law_366 rfl rfl (fun _ => ?_) (fun c9 => absurd (lgc_eq hgv) c9)
    refine aw_goto (n := 1908) X dL_law_371 rfl ?_
    exact k h3 _ _ _ _ _ _ _ ⟨⟨A2, w4⟩, ⟨A3, _, sm3, w3⟩, ⟨g2, ho3⟩, ez3, hIV⟩ (Nat.le_of_eq hb2.symm) (Nat.le_of_eq hd2.symm)
set_option maxHeartbeats 4000000 in
set_option maxRecDepth 100000 in
theorem ca_scene {p : Program} {l : Launch} {e : Env} {s : State} {m : MethodId} {below : List Frame} {meth : Method} {c : Code} {Q : State → Prop} {a0 : Array Value} {G : GG} {h0 h : AH} {b L : Nat} {xs : Nat → Int32} {ke mo out J bc bs Cr Dr : Nat} {σ : NS} {y5 y6 y7 y8 : Option Value} (X : MX p l s m meth c s a0 G cL_law "KelirnightLaw" 9) (hN : NX s) (SX : va_X b L xs s s.heap ∧ b < s.heap.size) (hz0 : ∀ b t x, h0 b = some (t, x) → t = 0) (hL : L ≤ 3584) (hJ : J + 7 ≤ L) (I : LawI G ke mo out h σ) (hb : Cr + 1195 + 25 * (540 - iN σ.mi) ≤ bc) (hd : Dr + 4582 + 100 * (540 - iN σ.mi) ≤ bs) (k : ∀ (h2 : AH) (σ2 : NS) (b2 d2 : Nat) (z5 z6 z7 z8 : Option Value), LawI G ke mo out h2 σ2 → Cr + 25 * (540 - iN σ2.mi) ≤ b2 → Dr + 100 * (540 - iN σ2.mi) ≤ d2 → AW p l e room_1 s m #[.ref b] below meth c Q s G 9 1 h0 h2 b2 d2 1908 [some (.ref b), some (.ref ke), some (.ref mo), some (.ref out), some (.int (nI J)), z5, z6, z7, z8] []) : AW p l e room_1 s m #[.ref b] below meth c Q s G 9 1 h0 h bc bs 374 [some (.ref b), some (.ref ke), some (.ref mo), some (.ref out), some (.int (nI J)), y5, y6, y7, y8] [] := by
  obtain ⟨⟨A, w⟩, ⟨A9, t, sm, hm⟩, ⟨g, ho⟩, ez, hv⟩ := I
  have hadv : iN σ.mi ≤ iN (sp_scene σ (xs (J + 1)) (xs (J + 2)) (xs (J + 3)) (xs (J + 4)) (xs (J + 5)) (xs (J + 6))).2.2.mi := by rw [mi_scene]; exact Nat.le_refl _
  have hIV : IV (sp_scene σ (xs (J + 1)) (xs (J + 2)) (xs (J + 3)) (xs (J + 4)) (xs (J + 5)) (xs (J + 6))).2.2 := iv_scene hv (xs (J + 1)) (xs (J + 2)) (xs (J + 3)) (xs (J + 4)) (xs (J + 5)) (xs (J + 6))
  have h540 := hIV.iN540
  have hlt := lt_scene σ (xs (J + 1)) (xs (J + 2)) (xs (J + 3)) (xs (J + 4)) (xs (J + 5)) (xs (J + 6))
  obtain ⟨b2, hb2⟩ : ∃ b2, b2 = Cr + 25 * (540 - iN (sp_scene σ (xs (J + 1)) (xs (J + 2)) (xs (J + 3)) (xs (J + 4)) (xs (J + 5)) (xs (J + 6))).2.2.mi) := ⟨_, rfl⟩
  obtain ⟨d2, hd2⟩ : ∃ d2, d2 = Dr + 100 * (540 - iN (sp_scene σ (xs (J + 1)) (xs (J + 2)) (xs (J + 3)) (xs (J + 4)) (xs (J + 5)) (xs (J + 6))).2.2.mi) := ⟨_, rfl⟩
  refine AW.mono (bc2 := b2 + 2 + 2) (bs2 := d2 + 21 + 25) (by omega) (by omega) ?_
  refine aw_ald1 X dL_law_374 rfl ?_
  refine aw_ald0 X dL_law_375 rfl ?_
  refine aw_ild4 X dL_law_376 rfl ?_
  refine aw_iconst X (1) dL_law_378 (by decide) rfl ?_
  refine aw_iadd X dL_law_379 rfl ?_
  refine aw_sld X SX (J + 1) dL_law_380 rfl (nI_plus J 1) (by omega) hL ?_
  refine aw_ald0 X dL_law_381 rfl ?_
  refine aw_ild4 X dL_law_382 rfl ?_
  refine aw_iconst X (2) dL_law_384 (by decide) rfl ?_
  refine aw_iadd X dL_law_385 rfl ?_
  refine aw_sld X SX (J + 2) dL_law_386 rfl (nI_plus J 2) (by omega) hL ?_
  refine aw_ald0 X dL_law_387 rfl ?_
  refine aw_ild4 X dL_law_388 rfl ?_
  refine aw_iconst X (3) dL_law_390 (by decide) rfl ?_
  refine aw_iadd X dL_law_391 rfl ?_
  refine aw_sld X SX (J + 3) dL_law_392 rfl (nI_plus J 3) (by omega) hL ?_
  refine aw_ald0 X dL_law_393 rfl ?_
  refine aw_ild4 X dL_law_394 rfl ?_
  refine aw_iconst X (4) dL_law_396 (by decide) rfl ?_
  refine aw_iadd X dL_law_397 rfl ?_
  refine aw_sld X SX (J + 4) dL_law_398 rfl (nI_plus J 4) (by omega) hL ?_
  refine aw_ald0 X dL_law_399 rfl ?_
  refine aw_ild4 X dL_law_400 rfl ?_
  refine aw_iconst X (5) dL_law_402 (by decide) rfl ?_
  refine aw_iadd X dL_law_403 rfl ?_
  refine aw_sld X SX (J + 5) dL_law_404 rfl (nI_plus J 5) (by omega) hL ?_
  refine aw_ald0 X dL_law_405 rfl ?_
  refine aw_ild4 X dL_law_406 rfl ?_
  refine aw_bipush X (6) dL_law_408 (by decide) rfl ?_
  refine aw_iadd X dL_law_410 rfl ?_
  refine aw_sld X SX (J + 6) dL_law_411 rfl (nI_plus J 6) (by omega) hL ?_
  refine aw_ald3 X dL_law_412 rfl ?_
  refine aw_callSO X dL_law_413 rfl (k_L_scene X.1 hN w ez ho (xs (J + 1)) (xs (J + 2)) (xs (J + 3)) (xs (J + 4)) (xs (J + 5)) (xs (J + 6))) cmhL_scene ml_L_112 rfl rfl (Nat.le_of_ble_eq_true rfl) ⟨Nat.le_of_ble_eq_true rfl, Nat.le_of_ble_eq_true rfl⟩ (fun f h2 g9 => f.unhide (h0_out hz0 f (by decide) ho) g9) (fun r h2 hq hf => ?_)
  obtain ⟨rfl, ⟨A2, w2⟩, g2, ho2, hg⟩ := hq
  have fr := hid_fr ho hf
  have hm2 : MoW G h2 2 mo A9 t sm σ := hm.tagK (fun a x e => fr a 2 x e (by decide) (by decide)) ((fr _ _ _ ez.1 (by decide) (by decide)).trans ez.1.symm)
  have ez2 : EZ G h2 := ⟨fr _ _ _ ez.1 (by decide) (by decide), fr _ _ _ ez.2 (by decide) (by decide)⟩
  refine aw_ist5 X dL_law_416 rfl (by decide) rfl ?_
  refine aw_tg (tg2 := 2) hz0 (by decide) ?_
  refine aw_ald2 X dL_law_418 rfl ?_
  refine aw_ald0 X dL_law_419 rfl ?_
  refine aw_ild4 X dL_law_420 rfl ?_
  refine aw_iconst X (1) dL_law_422 (by decide) rfl ?_
  refine aw_iadd X dL_law_423 rfl ?_
  refine aw_sld X SX (J + 1) dL_law_424 rfl (nI_plus J 1) (by omega) hL ?_
  refine aw_ald0 X dL_law_425 rfl ?_
  refine aw_ild4 X dL_law_426 rfl ?_
  refine aw_iconst X (2) dL_law_428 (by decide) rfl ?_
  refine aw_iadd X dL_law_429 rfl ?_
  refine aw_sld X SX (J + 2) dL_law_430 rfl (nI_plus J 2) (by omega) hL ?_
  refine aw_ald0 X dL_law_431 rfl ?_
  refine aw_ild4 X dL_law_432 rfl ?_
  refine aw_iconst X (3) dL_law_434 (by decide) rfl ?_
  refine aw_iadd X dL_law_435 rfl ?_
  refine aw_sld X SX (J + 3) dL_law_436 rfl (nI_plus J 3) (by omega) hL ?_
  refine aw_ald0 X dL_law_437 rfl ?_
  refine aw_ild4 X dL_law_438 rfl ?_
  refine aw_iconst X (4) dL_law_440 (by decide) rfl ?_
  refine aw_iadd X dL_law_441 rfl ?_
  refine aw_sld X SX (J + 4) dL_law_442 rfl (nI_plus J 4) (by omega) hL ?_
  refine aw_ald0 X dL_law_443 rfl ?_
  refine aw_ild4 X dL_law_444 rfl ?_
  refine aw_iconst X (5) dL_law_446 (by decide) rfl ?_
  refine aw_iadd X dL_law_447 rfl ?_
  refine aw_sld X SX (J + 5) dL_law_448 rfl (nI_plus J 5) (by omega) hL ?_
  refine aw_ald0 X dL_law_449 rfl ?_
  refine aw_ild4 X dL_law_450 rfl ?_
  refine aw_bipush X (6) dL_law_452 (by decide) rfl ?_
  refine aw_iadd X dL_law_454 rfl ?_
  refine aw_sld X SX (J + 6) dL_law_455 rfl (nI_plus J 6) (by omega) hL ?_
  refine aw_callV X dL_law_456 rfl (k_X7_scene X.1 (by decide) hm2 (xs (J + 1)) (xs (J + 2)) (xs (J + 3)) (xs (J + 4)) (xs (J + 5)) (xs (J + 6))) cmX7_scene ml_L_115 rfl hm2.1 rfl rfl (Nat.le_of_ble_eq_true rfl) ⟨Nat.le_of_ble_eq_true rfl, Nat.le_of_ble_eq_true rfl⟩ (fun r h3 hq3 hf3 => ?_)
  obtain ⟨rfl, A3, sm3, w3⟩ := hq3
  have ho3 := hf3.1 _ _ _ ho2 (by decide)
  have w4 := w2.tagK (fun a x e => hf3.1 _ _ _ e (by decide)) ((hf3.1 _ _ _ ez2.1 (by decide)).trans ez2.1.symm)
  have ez3 := ez2.fr hf3 (by decide)
  refine aw_ist6 X dL_law_459 rfl (by decide) rfl ?_
  refine aw_ald2 X dL_law_461 rfl ?_
  refine aw_callV X dL_law_462 rfl (k_X7_thrown X.1 w3) cmX7_thrown ml_L_105 rfl w3.1 rfl rfl (Nat.le_of_ble_eq_true rfl) ⟨Nat.le_of_ble_eq_true rfl, Nat.le_of_ble_eq_true rfl⟩ (aw_rs ?_)
  refine aw_tg (tg2 := 1) hz0 (by decide) ?_
  refine aw_ild5 X dL_law_465 rfl ?_
  refine aw_icmp_eq (n2 := 472) X dL_law_467 rfl rfl (fun _ => ?_) (fun c9 => absurd rfl c9)
  refine aw_ild5 X dL_law_472 rfl ?_
  refine aw_if_ne (n2 := 489) X dL_law_474 rfl rfl (fun c1 => ?_) (fun c1 => ?_)
  · refine aw_goto (n := 1908) X dL_law_489 rfl ?_
    exact k h3 _ _ _ _ _ _ _ ⟨⟨A2, w4⟩, ⟨A3, _, sm3, w3⟩, ⟨g2, ho3⟩, ez3, hIV⟩ (Nat.le_of_eq hb2.symm) (Nat.le_of_eq hd2.symm)
  · have hgv := hg (nI_z hlt c1)
    refine aw_ald3 X dL_law_477 rfl ?_
    refine aw_iconst X (0) dL_law_478 (by decide) rfl ?_
    refine aw_lald X (0) dL_law_479 rfl ho3 rfl (by decide) (by decide) ?_
    refine aw_ild6 X dL_law_480 rfl ?_
    refine aw_i2l X dL_law_482 rfl ?_
    refine aw_lcmp X dL_law_483 rfl ?_
    refine aw_if_eq (n2 := 489) X dL_law_484 rfl rfl (fun _ => ?_) (fun c9 => absurd (lgc_eq hgv) c9)
    refine aw_goto (n := 1908) X dL_law_489 rfl ?_
    exact k h3 _ _ _ _ _ _ _ ⟨⟨A2, w4⟩, ⟨A3, _, sm3, w3⟩, ⟨g2, ho3⟩, ez3, hIV⟩ (Nat.le_of_eq hb2.symm) (Nat.le_of_eq hd2.symm)
set_option maxHeartbeats 4000000 in
set_option maxRecDepth 100000 in
theorem ca_length {p : Program} {l : Launch} {e : Env} {s : State} {m : MethodId} {below : List Frame} {meth : Method} {c : Code} {Q : State → Prop} {a0 : Array Value} {G : GG} {h0 h : AH} {b L : Nat} {xs : Nat → Int32} {ke mo out J bc bs Cr Dr : Nat} {σ : NS} {y5 y6 y7 y8 : Option Value} (X : MX p l s m meth c s a0 G cL_law "KelirnightLaw" 9) (hN : NX s) (SX : va_X b L xs s s.heap ∧ b < s.heap.size) (hz0 : ∀ b t x, h0 b = some (t, x) → t = 0) (hL : L ≤ 3584) (hJ : J + 7 ≤ L) (I : LawI G ke mo out h σ) (hb : Cr + 1195 + 25 * (540 - iN σ.mi) ≤ bc) (hd : Dr + 4582 + 100 * (540 - iN σ.mi) ≤ bs) (k : ∀ (h2 : AH) (σ2 : NS) (b2 d2 : Nat) (z5 z6 z7 z8 : Option Value), LawI G ke mo out h2 σ2 → Cr + 25 * (540 - iN σ2.mi) ≤ b2 → Dr + 100 * (540 - iN σ2.mi) ≤ d2 → AW p l e room_1 s m #[.ref b] below meth c Q s G 9 1 h0 h2 b2 d2 1908 [some (.ref b), some (.ref ke), some (.ref mo), some (.ref out), some (.int (nI J)), z5, z6, z7, z8] []) : AW p l e room_1 s m #[.ref b] below meth c Q s G 9 1 h0 h bc bs 492 [some (.ref b), some (.ref ke), some (.ref mo), some (.ref out), some (.int (nI J)), y5, y6, y7, y8] [] := by
  obtain ⟨⟨A, w⟩, ⟨A9, t, sm, hm⟩, ⟨g, ho⟩, ez, hv⟩ := I
  have hadv : iN σ.mi ≤ iN (sp_length σ (xs (J + 1)) (xs (J + 2))).2.2.mi := by rw [mi_length]; exact Nat.le_refl _
  have hIV : IV (sp_length σ (xs (J + 1)) (xs (J + 2))).2.2 := iv_length hv (xs (J + 1)) (xs (J + 2))
  have h540 := hIV.iN540
  have hlt := lt_length σ (xs (J + 1)) (xs (J + 2))
  obtain ⟨b2, hb2⟩ : ∃ b2, b2 = Cr + 25 * (540 - iN (sp_length σ (xs (J + 1)) (xs (J + 2))).2.2.mi) := ⟨_, rfl⟩
  obtain ⟨d2, hd2⟩ : ∃ d2, d2 = Dr + 100 * (540 - iN (sp_length σ (xs (J + 1)) (xs (J + 2))).2.2.mi) := ⟨_, rfl⟩
  refine AW.mono (bc2 := b2 + 11 + 1) (bs2 := d2 + 40 + 6) (by omega) (by omega) ?_
  refine aw_ald1 X dL_law_492 rfl ?_
  refine aw_ald0 X dL_law_493 rfl ?_
  refine aw_ild4 X dL_law_494 rfl ?_
  refine aw_iconst X (1) dL_law_496 (by decide) rfl ?_
  refine aw_iadd X dL_law_497 rfl ?_
  refine aw_sld X SX (J + 1) dL_law_498 rfl (nI_plus J 1) (by omega) hL ?_
  refine aw_ald0 X dL_law_499 rfl ?_
  refine aw_ild4 X dL_law_500 rfl ?_
  refine aw_iconst X (2) dL_law_502 (by decide) rfl ?_
  refine aw_iadd X dL_law_503 rfl ?_
  refine aw_sld X SX (J + 2) dL_law_504 rfl (nI_plus J 2) (by omega) hL ?_
  refine aw_ald3 X dL_law_505 rfl ?_
  refine aw_callSO X dL_law_506 rfl (k_L_length X.1 hN w ez ho (xs (J + 1)) (xs (J + 2))) cmhL_length ml_L_116 rfl rfl (Nat.le_of_ble_eq_true rfl) ⟨Nat.le_of_ble_eq_true rfl, Nat.le_of_ble_eq_true rfl⟩ (fun f h2 g9 => f.unhide (h0_out hz0 f (by decide) ho) g9) (fun r h2 hq hf => ?_)
  obtain ⟨rfl, ⟨A2, w2⟩, g2, ho2, hg⟩ := hq
  have fr := hid_fr ho hf
  have hm2 : MoW G h2 2 mo A9 t sm σ := hm.tagK (fun a x e => fr a 2 x e (by decide) (by decide)) ((fr _ _ _ ez.1 (by decide) (by decide)).trans ez.1.symm)
  have ez2 : EZ G h2 := ⟨fr _ _ _ ez.1 (by decide) (by decide), fr _ _ _ ez.2 (by decide) (by decide)⟩
  refine aw_ist5 X dL_law_509 rfl (by decide) rfl ?_
  refine aw_tg (tg2 := 2) hz0 (by decide) ?_
  refine aw_ald2 X dL_law_511 rfl ?_
  refine aw_ald0 X dL_law_512 rfl ?_
  refine aw_ild4 X dL_law_513 rfl ?_
  refine aw_iconst X (1) dL_law_515 (by decide) rfl ?_
  refine aw_iadd X dL_law_516 rfl ?_
  refine aw_sld X SX (J + 1) dL_law_517 rfl (nI_plus J 1) (by omega) hL ?_
  refine aw_ald0 X dL_law_518 rfl ?_
  refine aw_ild4 X dL_law_519 rfl ?_
  refine aw_iconst X (2) dL_law_521 (by decide) rfl ?_
  refine aw_iadd X dL_law_522 rfl ?_
  refine aw_sld X SX (J + 2) dL_law_523 rfl (nI_plus J 2) (by omega) hL ?_
  refine aw_callV X dL_law_524 rfl (k_X7_length X.1 (by decide) hm2 hv (xs (J + 1)) (xs (J + 2))) cmX7_length ml_L_118 rfl hm2.1 rfl rfl (Nat.le_of_ble_eq_true rfl) ⟨Nat.le_of_ble_eq_true rfl, Nat.le_of_ble_eq_true rfl⟩ (fun r h3 hq3 hf3 => ?_)
  obtain ⟨rfl, A3, sm3, w3⟩ := hq3
  have ho3 := hf3.1 _ _ _ ho2 (by decide)
  have w4 := w2.tagK (fun a x e => hf3.1 _ _ _ e (by decide)) ((hf3.1 _ _ _ ez2.1 (by decide)).trans ez2.1.symm)
  have ez3 := ez2.fr hf3 (by decide)
  refine aw_ist6 X dL_law_527 rfl (by decide) rfl ?_
  refine aw_ald2 X dL_law_529 rfl ?_
  refine aw_callV X dL_law_530 rfl (k_X7_thrown X.1 w3) cmX7_thrown ml_L_105 rfl w3.1 rfl rfl (Nat.le_of_ble_eq_true rfl) ⟨Nat.le_of_ble_eq_true rfl, Nat.le_of_ble_eq_true rfl⟩ (aw_rs ?_)
  refine aw_tg (tg2 := 1) hz0 (by decide) ?_
  refine aw_ild5 X dL_law_533 rfl ?_
  refine aw_icmp_eq (n2 := 540) X dL_law_535 rfl rfl (fun _ => ?_) (fun c9 => absurd rfl c9)
  refine aw_ild5 X dL_law_540 rfl ?_
  refine aw_if_ne (n2 := 557) X dL_law_542 rfl rfl (fun c1 => ?_) (fun c1 => ?_)
  · refine aw_goto (n := 1908) X dL_law_557 rfl ?_
    exact k h3 _ _ _ _ _ _ _ ⟨⟨A2, w4⟩, ⟨A3, _, sm3, w3⟩, ⟨g2, ho3⟩, ez3, hIV⟩ (Nat.le_of_eq hb2.symm) (Nat.le_of_eq hd2.symm)
  · have hgv := hg (nI_z hlt c1)
    refine aw_ald3 X dL_law_545 rfl ?_
    refine aw_iconst X (0) dL_law_546 (by decide) rfl ?_
    refine aw_lald X (0) dL_law_547 rfl ho3 rfl (by decide) (by decide) ?_
    refine aw_ild6 X dL_law_548 rfl ?_
    refine aw_i2l X dL_law_550 rfl ?_
    refine aw_lcmp X dL_law_551 rfl ?_
    refine aw_if_eq (n2 := 557) X dL_law_552 rfl rfl (fun _ => ?_) (fun c9 => absurd (lgc_eq hgv) c9)
    refine aw_goto (n := 1908) X dL_law_557 rfl ?_
    exact k h3 _ _ _ _ _ _ _ ⟨⟨A2, w4⟩, ⟨A3, _, sm3, w3⟩, ⟨g2, ho3⟩, ez3, hIV⟩ (Nat.le_of_eq hb2.symm) (Nat.le_of_eq hd2.symm)
set_option maxHeartbeats 4000000 in
set_option maxRecDepth 100000 in
theorem ca_swap {p : Program} {l : Launch} {e : Env} {s : State} {m : MethodId} {below : List Frame} {meth : Method} {c : Code} {Q : State → Prop} {a0 : Array Value} {G : GG} {h0 h : AH} {b L : Nat} {xs : Nat → Int32} {ke mo out J bc bs Cr Dr : Nat} {σ : NS} {y5 y6 y7 y8 : Option Value} (X : MX p l s m meth c s a0 G cL_law "KelirnightLaw" 9) (hN : NX s) (SX : va_X b L xs s s.heap ∧ b < s.heap.size) (hz0 : ∀ b t x, h0 b = some (t, x) → t = 0) (hL : L ≤ 3584) (hJ : J + 7 ≤ L) (I : LawI G ke mo out h σ) (hb : Cr + 1195 + 25 * (540 - iN σ.mi) ≤ bc) (hd : Dr + 4582 + 100 * (540 - iN σ.mi) ≤ bs) (k : ∀ (h2 : AH) (σ2 : NS) (b2 d2 : Nat) (z5 z6 z7 z8 : Option Value), LawI G ke mo out h2 σ2 → Cr + 25 * (540 - iN σ2.mi) ≤ b2 → Dr + 100 * (540 - iN σ2.mi) ≤ d2 → AW p l e room_1 s m #[.ref b] below meth c Q s G 9 1 h0 h2 b2 d2 1908 [some (.ref b), some (.ref ke), some (.ref mo), some (.ref out), some (.int (nI J)), z5, z6, z7, z8] []) : AW p l e room_1 s m #[.ref b] below meth c Q s G 9 1 h0 h bc bs 560 [some (.ref b), some (.ref ke), some (.ref mo), some (.ref out), some (.int (nI J)), y5, y6, y7, y8] [] := by
  obtain ⟨⟨A, w⟩, ⟨A9, t, sm, hm⟩, ⟨g, ho⟩, ez, hv⟩ := I
  have hadv : iN σ.mi ≤ iN (sp_swap σ (xs (J + 1)) (xs (J + 2))).2.2.mi := by rw [mi_swap]; exact Nat.le_refl _
  have hIV : IV (sp_swap σ (xs (J + 1)) (xs (J + 2))).2.2 := iv_swap hv (xs (J + 1)) (xs (J + 2))
  have h540 := hIV.iN540
  have hlt := lt_swap σ (xs (J + 1)) (xs (J + 2))
  obtain ⟨b2, hb2⟩ : ∃ b2, b2 = Cr + 25 * (540 - iN (sp_swap σ (xs (J + 1)) (xs (J + 2))).2.2.mi) := ⟨_, rfl⟩
  obtain ⟨d2, hd2⟩ : ∃ d2, d2 = Dr + 100 * (540 - iN (sp_swap σ (xs (J + 1)) (xs (J + 2))).2.2.mi) := ⟨_, rfl⟩
  refine AW.mono (bc2 := b2 + 11 + 1) (bs2 := d2 + 40 + 6) (by omega) (by omega) ?_
  refine aw_ald1 X dL_law_560 rfl ?_
  refine aw_ald0 X dL_law_561 rfl ?_
  refine aw_ild4 X dL_law_562 rfl ?_
  refine aw_iconst X (1) dL_law_564 (by decide) rfl ?_
  refine aw_iadd X dL_law_565 rfl ?_
  refine aw_sld X SX (J + 1) dL_law_566 rfl (nI_plus J 1) (by omega) hL ?_
  refine aw_ald0 X dL_law_567 rfl ?_
  refine aw_ild4 X dL_law_568 rfl ?_
  refine aw_iconst X (2) dL_law_570 (by decide) rfl ?_
  refine aw_iadd X dL_law_571 rfl ?_
  refine aw_sld X SX (J + 2) dL_law_572 rfl (nI_plus J 2) (by omega) hL ?_
  refine aw_ald3 X dL_law_573 rfl ?_
  refine aw_callSO X dL_law_574 rfl (k_L_swap X.1 hN w ez ho (xs (J + 1)) (xs (J + 2))) cmhL_swap ml_L_119 rfl rfl (Nat.le_of_ble_eq_true rfl) ⟨Nat.le_of_ble_eq_true rfl, Nat.le_of_ble_eq_true rfl⟩ (fun f h2 g9 => f.unhide (h0_out hz0 f (by decide) ho) g9) (fun r h2 hq hf => ?_)
  obtain ⟨rfl, ⟨A2, w2⟩, g2, ho2, hg⟩ := hq
  have fr := hid_fr ho hf
  have hm2 : MoW G h2 2 mo A9 t sm σ := hm.tagK (fun a x e => fr a 2 x e (by decide) (by decide)) ((fr _ _ _ ez.1 (by decide) (by decide)).trans ez.1.symm)
  have ez2 : EZ G h2 := ⟨fr _ _ _ ez.1 (by decide) (by decide), fr _ _ _ ez.2 (by decide) (by decide)⟩
  refine aw_ist5 X dL_law_577 rfl (by decide) rfl ?_
  refine aw_tg (tg2 := 2) hz0 (by decide) ?_
  refine aw_ald2 X dL_law_579 rfl ?_
  refine aw_ald0 X dL_law_580 rfl ?_
  refine aw_ild4 X dL_law_581 rfl ?_
  refine aw_iconst X (1) dL_law_583 (by decide) rfl ?_
  refine aw_iadd X dL_law_584 rfl ?_
  refine aw_sld X SX (J + 1) dL_law_585 rfl (nI_plus J 1) (by omega) hL ?_
  refine aw_ald0 X dL_law_586 rfl ?_
  refine aw_ild4 X dL_law_587 rfl ?_
  refine aw_iconst X (2) dL_law_589 (by decide) rfl ?_
  refine aw_iadd X dL_law_590 rfl ?_
  refine aw_sld X SX (J + 2) dL_law_591 rfl (nI_plus J 2) (by omega) hL ?_
  refine aw_callV X dL_law_592 rfl (k_X7_swap X.1 (by decide) hm2 hv (xs (J + 1)) (xs (J + 2))) cmX7_swap ml_L_121 rfl hm2.1 rfl rfl (Nat.le_of_ble_eq_true rfl) ⟨Nat.le_of_ble_eq_true rfl, Nat.le_of_ble_eq_true rfl⟩ (fun r h3 hq3 hf3 => ?_)
  obtain ⟨rfl, A3, sm3, w3⟩ := hq3
  have ho3 := hf3.1 _ _ _ ho2 (by decide)
  have w4 := w2.tagK (fun a x e => hf3.1 _ _ _ e (by decide)) ((hf3.1 _ _ _ ez2.1 (by decide)).trans ez2.1.symm)
  have ez3 := ez2.fr hf3 (by decide)
  refine aw_ist6 X dL_law_595 rfl (by decide) rfl ?_
  refine aw_ald2 X dL_law_597 rfl ?_
  refine aw_callV X dL_law_598 rfl (k_X7_thrown X.1 w3) cmX7_thrown ml_L_105 rfl w3.1 rfl rfl (Nat.le_of_ble_eq_true rfl) ⟨Nat.le_of_ble_eq_true rfl, Nat.le_of_ble_eq_true rfl⟩ (aw_rs ?_)
  refine aw_tg (tg2 := 1) hz0 (by decide) ?_
  refine aw_ild5 X dL_law_601 rfl ?_
  refine aw_icmp_eq (n2 := 608) X dL_law_603 rfl rfl (fun _ => ?_) (fun c9 => absurd rfl c9)
  refine aw_ild5 X dL_law_608 rfl ?_
  refine aw_if_ne (n2 := 625) X dL_law_610 rfl rfl (fun c1 => ?_) (fun c1 => ?_)
  · refine aw_goto (n := 1908) X dL_law_625 rfl ?_
    exact k h3 _ _ _ _ _ _ _ ⟨⟨A2, w4⟩, ⟨A3, _, sm3, w3⟩, ⟨g2, ho3⟩, ez3, hIV⟩ (Nat.le_of_eq hb2.symm) (Nat.le_of_eq hd2.symm)
  · have hgv := hg (nI_z hlt c1)
    refine aw_ald3 X dL_law_613 rfl ?_
    refine aw_iconst X (0) dL_law_614 (by decide) rfl ?_
    refine aw_lald X (0) dL_law_615 rfl ho3 rfl (by decide) (by decide) ?_
    refine aw_ild6 X dL_law_616 rfl ?_
    refine aw_i2l X dL_law_618 rfl ?_
    refine aw_lcmp X dL_law_619 rfl ?_
    refine aw_if_eq (n2 := 625) X dL_law_620 rfl rfl (fun _ => ?_) (fun c9 => absurd (lgc_eq hgv) c9)
    refine aw_goto (n := 1908) X dL_law_625 rfl ?_
    exact k h3 _ _ _ _ _ _ _ ⟨⟨A2, w4⟩, ⟨A3, _, sm3, w3⟩, ⟨g2, ho3⟩, ez3, hIV⟩ (Nat.le_of_eq hb2.symm) (Nat.le_of_eq hd2.symm)
set_option maxHeartbeats 4000000 in
set_option maxRecDepth 100000 in
theorem ca_lamp {p : Program} {l : Launch} {e : Env} {s : State} {m : MethodId} {below : List Frame} {meth : Method} {c : Code} {Q : State → Prop} {a0 : Array Value} {G : GG} {h0 h : AH} {b L : Nat} {xs : Nat → Int32} {ke mo out J bc bs Cr Dr : Nat} {σ : NS} {y5 y6 y7 y8 : Option Value} (X : MX p l s m meth c s a0 G cL_law "KelirnightLaw" 9) (hN : NX s) (SX : va_X b L xs s s.heap ∧ b < s.heap.size) (hz0 : ∀ b t x, h0 b = some (t, x) → t = 0) (hL : L ≤ 3584) (hJ : J + 7 ≤ L) (I : LawI G ke mo out h σ) (hb : Cr + 1195 + 25 * (540 - iN σ.mi) ≤ bc) (hd : Dr + 4582 + 100 * (540 - iN σ.mi) ≤ bs) (k : ∀ (h2 : AH) (σ2 : NS) (b2 d2 : Nat) (z5 z6 z7 z8 : Option Value), LawI G ke mo out h2 σ2 → Cr + 25 * (540 - iN σ2.mi) ≤ b2 → Dr + 100 * (540 - iN σ2.mi) ≤ d2 → AW p l e room_1 s m #[.ref b] below meth c Q s G 9 1 h0 h2 b2 d2 1908 [some (.ref b), some (.ref ke), some (.ref mo), some (.ref out), some (.int (nI J)), z5, z6, z7, z8] []) : AW p l e room_1 s m #[.ref b] below meth c Q s G 9 1 h0 h bc bs 628 [some (.ref b), some (.ref ke), some (.ref mo), some (.ref out), some (.int (nI J)), y5, y6, y7, y8] [] := by
  obtain ⟨⟨A, w⟩, ⟨A9, t, sm, hm⟩, ⟨g, ho⟩, ez, hv⟩ := I
  have hadv : iN σ.mi ≤ iN (sp_lamp σ (xs (J + 1)) (xs (J + 2))).2.2.mi := by rw [mi_lamp]; exact Nat.le_refl _
  have hIV : IV (sp_lamp σ (xs (J + 1)) (xs (J + 2))).2.2 := iv_lamp hv (xs (J + 1)) (xs (J + 2))
  have h540 := hIV.iN540
  have hlt := lt_lamp σ (xs (J + 1)) (xs (J + 2))
  obtain ⟨b2, hb2⟩ : ∃ b2, b2 = Cr + 25 * (540 - iN (sp_lamp σ (xs (J + 1)) (xs (J + 2))).2.2.mi) := ⟨_, rfl⟩
  obtain ⟨d2, hd2⟩ : ∃ d2, d2 = Dr + 100 * (540 - iN (sp_lamp σ (xs (J + 1)) (xs (J + 2))).2.2.mi) := ⟨_, rfl⟩
  refine AW.mono (bc2 := b2 + 1) (bs2 := d2 + 6) (by omega) (by omega) ?_
  refine aw_ald1 X dL_law_628 rfl ?_
  refine aw_ald0 X dL_law_629 rfl ?_
  refine aw_ild4 X dL_law_630 rfl ?_
  refine aw_iconst X (1) dL_law_632 (by decide) rfl ?_
  refine aw_iadd X dL_law_633 rfl ?_
  refine aw_sld X SX (J + 1) dL_law_634 rfl (nI_plus J 1) (by omega) hL ?_
  refine aw_ald0 X dL_law_635 rfl ?_
  refine aw_ild4 X dL_law_636 rfl ?_
  refine aw_iconst X (2) dL_law_638 (by decide) rfl ?_
  refine aw_iadd X dL_law_639 rfl ?_
  refine aw_sld X SX (J + 2) dL_law_640 rfl (nI_plus J 2) (by omega) hL ?_
  refine aw_ald3 X dL_law_641 rfl ?_
  refine aw_callSO X dL_law_642 rfl (k_L_lamp X.1 hN w ez ho (xs (J + 1)) (xs (J + 2))) cmhL_lamp ml_L_122 rfl rfl (Nat.le_of_ble_eq_true rfl) ⟨Nat.le_of_ble_eq_true rfl, Nat.le_of_ble_eq_true rfl⟩ (fun f h2 g9 => f.unhide (h0_out hz0 f (by decide) ho) g9) (fun r h2 hq hf => ?_)
  obtain ⟨rfl, ⟨A2, w2⟩, g2, ho2, hg⟩ := hq
  have fr := hid_fr ho hf
  have hm2 : MoW G h2 2 mo A9 t sm σ := hm.tagK (fun a x e => fr a 2 x e (by decide) (by decide)) ((fr _ _ _ ez.1 (by decide) (by decide)).trans ez.1.symm)
  have ez2 : EZ G h2 := ⟨fr _ _ _ ez.1 (by decide) (by decide), fr _ _ _ ez.2 (by decide) (by decide)⟩
  refine aw_ist5 X dL_law_645 rfl (by decide) rfl ?_
  refine aw_tg (tg2 := 2) hz0 (by decide) ?_
  refine aw_ald2 X dL_law_647 rfl ?_
  refine aw_ald0 X dL_law_648 rfl ?_
  refine aw_ild4 X dL_law_649 rfl ?_
  refine aw_iconst X (1) dL_law_651 (by decide) rfl ?_
  refine aw_iadd X dL_law_652 rfl ?_
  refine aw_sld X SX (J + 1) dL_law_653 rfl (nI_plus J 1) (by omega) hL ?_
  refine aw_ald0 X dL_law_654 rfl ?_
  refine aw_ild4 X dL_law_655 rfl ?_
  refine aw_iconst X (2) dL_law_657 (by decide) rfl ?_
  refine aw_iadd X dL_law_658 rfl ?_
  refine aw_sld X SX (J + 2) dL_law_659 rfl (nI_plus J 2) (by omega) hL ?_
  refine aw_callV X dL_law_660 rfl (k_X7_lamp X.1 (by decide) hm2 (xs (J + 1)) (xs (J + 2))) cmX7_lamp ml_L_124 rfl hm2.1 rfl rfl (Nat.le_of_ble_eq_true rfl) ⟨Nat.le_of_ble_eq_true rfl, Nat.le_of_ble_eq_true rfl⟩ (fun r h3 hq3 hf3 => ?_)
  obtain ⟨rfl, A3, sm3, w3⟩ := hq3
  have ho3 := hf3.1 _ _ _ ho2 (by decide)
  have w4 := w2.tagK (fun a x e => hf3.1 _ _ _ e (by decide)) ((hf3.1 _ _ _ ez2.1 (by decide)).trans ez2.1.symm)
  have ez3 := ez2.fr hf3 (by decide)
  refine aw_ist6 X dL_law_663 rfl (by decide) rfl ?_
  refine aw_ald2 X dL_law_665 rfl ?_
  refine aw_callV X dL_law_666 rfl (k_X7_thrown X.1 w3) cmX7_thrown ml_L_105 rfl w3.1 rfl rfl (Nat.le_of_ble_eq_true rfl) ⟨Nat.le_of_ble_eq_true rfl, Nat.le_of_ble_eq_true rfl⟩ (aw_rs ?_)
  refine aw_tg (tg2 := 1) hz0 (by decide) ?_
  refine aw_ild5 X dL_law_669 rfl ?_
  refine aw_icmp_eq (n2 := 676) X dL_law_671 rfl rfl (fun _ => ?_) (fun c9 => absurd rfl c9)
  refine aw_ild5 X dL_law_676 rfl ?_
  refine aw_if_ne (n2 := 693) X dL_law_678 rfl rfl (fun c1 => ?_) (fun c1 => ?_)
  · refine aw_goto (n := 1908) X dL_law_693 rfl ?_
    exact k h3 _ _ _ _ _ _ _ ⟨⟨A2, w4⟩, ⟨A3, _, sm3, w3⟩, ⟨g2, ho3⟩, ez3, hIV⟩ (Nat.le_of_eq hb2.symm) (Nat.le_of_eq hd2.symm)
  · have hgv := hg (nI_z hlt c1)
    refine aw_ald3 X dL_law_681 rfl ?_
    refine aw_iconst X (0) dL_law_682 (by decide) rfl ?_
    refine aw_lald X (0) dL_law_683 rfl ho3 rfl (by decide) (by decide) ?_
    refine aw_ild6 X dL_law_684 rfl ?_
    refine aw_i2l X dL_law_686 rfl ?_
    refine aw_lcmp X dL_law_687 rfl ?_
    refine aw_if_eq (n2 := 693) X dL_law_688 rfl rfl (fun _ => ?_) (fun c9 => absurd (lgc_eq hgv) c9)
    refine aw_goto (n := 1908) X dL_law_693 rfl ?_
    exact k h3 _ _ _ _ _ _ _ ⟨⟨A2, w4⟩, ⟨A3, _, sm3, w3⟩, ⟨g2, ho3⟩, ez3, hIV⟩ (Nat.le_of_eq hb2.symm) (Nat.le_of_eq hd2.symm)
set_option maxHeartbeats 4000000 in
set_option maxRecDepth 100000 in
theorem ca_grip {p : Program} {l : Launch} {e : Env} {s : State} {m : MethodId} {below : List Frame} {meth : Method} {c : Code} {Q : State → Prop} {a0 : Array Value} {G : GG} {h0 h : AH} {b L : Nat} {xs : Nat → Int32} {ke mo out J bc bs Cr Dr : Nat} {σ : NS} {y5 y6 y7 y8 : Option Value} (X : MX p l s m meth c s a0 G cL_law "KelirnightLaw" 9) (hN : NX s) (SX : va_X b L xs s s.heap ∧ b < s.heap.size) (hz0 : ∀ b t x, h0 b = some (t, x) → t = 0) (hL : L ≤ 3584) (hJ : J + 7 ≤ L) (I : LawI G ke mo out h σ) (hb : Cr + 1195 + 25 * (540 - iN σ.mi) ≤ bc) (hd : Dr + 4582 + 100 * (540 - iN σ.mi) ≤ bs) (k : ∀ (h2 : AH) (σ2 : NS) (b2 d2 : Nat) (z5 z6 z7 z8 : Option Value), LawI G ke mo out h2 σ2 → Cr + 25 * (540 - iN σ2.mi) ≤ b2 → Dr + 100 * (540 - iN σ2.mi) ≤ d2 → AW p l e room_1 s m #[.ref b] below meth c Q s G 9 1 h0 h2 b2 d2 1908 [some (.ref b), some (.ref ke), some (.ref mo), some (.ref out), some (.int (nI J)), z5, z6, z7, z8] []) : AW p l e room_1 s m #[.ref b] below meth c Q s G 9 1 h0 h bc bs 696 [some (.ref b), some (.ref ke), some (.ref mo), some (.ref out), some (.int (nI J)), y5, y6, y7, y8] [] := by
  obtain ⟨⟨A, w⟩, ⟨A9, t, sm, hm⟩, ⟨g, ho⟩, ez, hv⟩ := I
  have hadv : iN σ.mi ≤ iN (sp_grip σ (xs (J + 1))).2.2.mi := by rw [mi_grip]; exact Nat.le_refl _
  have hIV : IV (sp_grip σ (xs (J + 1))).2.2 := iv_grip hv (xs (J + 1))
  have h540 := hIV.iN540
  have hlt := lt_grip σ (xs (J + 1))
  obtain ⟨b2, hb2⟩ : ∃ b2, b2 = Cr + 25 * (540 - iN (sp_grip σ (xs (J + 1))).2.2.mi) := ⟨_, rfl⟩
  obtain ⟨d2, hd2⟩ : ∃ d2, d2 = Dr + 100 * (540 - iN (sp_grip σ (xs (J + 1))).2.2.mi) := ⟨_, rfl⟩
  refine AW.mono (bc2 := b2 + 2 + 1) (bs2 := d2 + 8 + 6) (by omega) (by omega) ?_
  refine aw_ald1 X dL_law_696 rfl ?_
  refine aw_ald0 X dL_law_697 rfl ?_
  refine aw_ild4 X dL_law_698 rfl ?_
  refine aw_iconst X (1) dL_law_700 (by decide) rfl ?_
  refine aw_iadd X dL_law_701 rfl ?_
  refine aw_sld X SX (J + 1) dL_law_702 rfl (nI_plus J 1) (by omega) hL ?_
  refine aw_ald3 X dL_law_703 rfl ?_
  refine aw_callSO X dL_law_704 rfl (k_L_grip X.1 hN w ez ho (xs (J + 1))) cmhL_grip ml_L_125 rfl rfl (Nat.le_of_ble_eq_true rfl) ⟨Nat.le_of_ble_eq_true rfl, Nat.le_of_ble_eq_true rfl⟩ (fun f h2 g9 => f.unhide (h0_out hz0 f (by decide) ho) g9) (fun r h2 hq hf => ?_)
  obtain ⟨rfl, ⟨A2, w2⟩, g2, ho2, hg⟩ := hq
  have fr := hid_fr ho hf
  have hm2 : MoW G h2 2 mo A9 t sm σ := hm.tagK (fun a x e => fr a 2 x e (by decide) (by decide)) ((fr _ _ _ ez.1 (by decide) (by decide)).trans ez.1.symm)
  have ez2 : EZ G h2 := ⟨fr _ _ _ ez.1 (by decide) (by decide), fr _ _ _ ez.2 (by decide) (by decide)⟩
  refine aw_ist5 X dL_law_707 rfl (by decide) rfl ?_
  refine aw_tg (tg2 := 2) hz0 (by decide) ?_
  refine aw_ald2 X dL_law_709 rfl ?_
  refine aw_ald0 X dL_law_710 rfl ?_
  refine aw_ild4 X dL_law_711 rfl ?_
  refine aw_iconst X (1) dL_law_713 (by decide) rfl ?_
  refine aw_iadd X dL_law_714 rfl ?_
  refine aw_sld X SX (J + 1) dL_law_715 rfl (nI_plus J 1) (by omega) hL ?_
  refine aw_callV X dL_law_716 rfl (k_X7_grip X.1 (by decide) hm2 hv (xs (J + 1))) cmX7_grip ml_L_128 rfl hm2.1 rfl rfl (Nat.le_of_ble_eq_true rfl) ⟨Nat.le_of_ble_eq_true rfl, Nat.le_of_ble_eq_true rfl⟩ (fun r h3 hq3 hf3 => ?_)
  obtain ⟨rfl, A3, sm3, w3⟩ := hq3
  have ho3 := hf3.1 _ _ _ ho2 (by decide)
  have w4 := w2.tagK (fun a x e => hf3.1 _ _ _ e (by decide)) ((hf3.1 _ _ _ ez2.1 (by decide)).trans ez2.1.symm)
  have ez3 := ez2.fr hf3 (by decide)
  refine aw_ist6 X dL_law_719 rfl (by decide) rfl ?_
  refine aw_ald2 X dL_law_721 rfl ?_
  refine aw_callV X dL_law_722 rfl (k_X7_thrown X.1 w3) cmX7_thrown ml_L_105 rfl w3.1 rfl rfl (Nat.le_of_ble_eq_true rfl) ⟨Nat.le_of_ble_eq_true rfl, Nat.le_of_ble_eq_true rfl⟩ (aw_rs ?_)
  refine aw_tg (tg2 := 1) hz0 (by decide) ?_
  refine aw_ild5 X dL_law_725 rfl ?_
  refine aw_icmp_eq (n2 := 732) X dL_law_727 rfl rfl (fun _ => ?_) (fun c9 => absurd rfl c9)
  refine aw_ild5 X dL_law_732 rfl ?_
  refine aw_if_ne (n2 := 749) X dL_law_734 rfl rfl (fun c1 => ?_) (fun c1 => ?_)
  · refine aw_goto (n := 1908) X dL_law_749 rfl ?_
    exact k h3 _ _ _ _ _ _ _ ⟨⟨A2, w4⟩, ⟨A3, _, sm3, w3⟩, ⟨g2, ho3⟩, ez3, hIV⟩ (Nat.le_of_eq hb2.symm) (Nat.le_of_eq hd2.symm)
  · have hgv := hg (nI_z hlt c1)
    refine aw_ald3 X dL_law_737 rfl ?_
    refine aw_iconst X (0) dL_law_738 (by decide) rfl ?_
    refine aw_lald X (0) dL_law_739 rfl ho3 rfl (by decide) (by decide) ?_
    refine aw_ild6 X dL_law_740 rfl ?_
    refine aw_i2l X dL_law_742 rfl ?_
    refine aw_lcmp X dL_law_743 rfl ?_
    refine aw_if_eq (n2 := 749) X dL_law_744 rfl rfl (fun _ => ?_) (fun c9 => absurd (lgc_eq hgv) c9)
    refine aw_goto (n := 1908) X dL_law_749 rfl ?_
    exact k h3 _ _ _ _ _ _ _ ⟨⟨A2, w4⟩, ⟨A3, _, sm3, w3⟩, ⟨g2, ho3⟩, ez3, hIV⟩ (Nat.le_of_eq hb2.symm) (Nat.le_of_eq hd2.symm)
set_option maxHeartbeats 4000000 in
set_option maxRecDepth 100000 in
theorem ca_move {p : Program} {l : Launch} {e : Env} {s : State} {m : MethodId} {below : List Frame} {meth : Method} {c : Code} {Q : State → Prop} {a0 : Array Value} {G : GG} {h0 h : AH} {b L : Nat} {xs : Nat → Int32} {ke mo out J bc bs Cr Dr : Nat} {σ : NS} {y5 y6 y7 y8 : Option Value} (X : MX p l s m meth c s a0 G cL_law "KelirnightLaw" 9) (hN : NX s) (SX : va_X b L xs s s.heap ∧ b < s.heap.size) (hz0 : ∀ b t x, h0 b = some (t, x) → t = 0) (hL : L ≤ 3584) (hJ : J + 7 ≤ L) (I : LawI G ke mo out h σ) (hb : Cr + 1195 + 25 * (540 - iN σ.mi) ≤ bc) (hd : Dr + 4582 + 100 * (540 - iN σ.mi) ≤ bs) (k : ∀ (h2 : AH) (σ2 : NS) (b2 d2 : Nat) (z5 z6 z7 z8 : Option Value), LawI G ke mo out h2 σ2 → Cr + 25 * (540 - iN σ2.mi) ≤ b2 → Dr + 100 * (540 - iN σ2.mi) ≤ d2 → AW p l e room_1 s m #[.ref b] below meth c Q s G 9 1 h0 h2 b2 d2 1908 [some (.ref b), some (.ref ke), some (.ref mo), some (.ref out), some (.int (nI J)), z5, z6, z7, z8] []) : AW p l e room_1 s m #[.ref b] below meth c Q s G 9 1 h0 h bc bs 752 [some (.ref b), some (.ref ke), some (.ref mo), some (.ref out), some (.int (nI J)), y5, y6, y7, y8] [] := by
  obtain ⟨⟨A, w⟩, ⟨A9, t, sm, hm⟩, ⟨g, ho⟩, ez, hv⟩ := I
  have hadv : iN σ.mi ≤ iN (sp_move σ (xs (J + 1)) (xs (J + 2))).2.2.mi := by rw [mi_move]; exact Nat.le_refl _
  have hIV : IV (sp_move σ (xs (J + 1)) (xs (J + 2))).2.2 := iv_move hv (xs (J + 1)) (xs (J + 2))
  have h540 := hIV.iN540
  have hlt := lt_move σ (xs (J + 1)) (xs (J + 2))
  obtain ⟨b2, hb2⟩ : ∃ b2, b2 = Cr + 25 * (540 - iN (sp_move σ (xs (J + 1)) (xs (J + 2))).2.2.mi) := ⟨_, rfl⟩
  obtain ⟨d2, hd2⟩ : ∃ d2, d2 = Dr + 100 * (540 - iN (sp_move σ (xs (J + 1)) (xs (J + 2))).2.2.mi) := ⟨_, rfl⟩
  refine AW.mono (bc2 := b2 + 1) (bs2 := d2 + 6) (by omega) (by omega) ?_
  refine aw_ald1 X dL_law_752 rfl ?_
  refine aw_ald0 X dL_law_753 rfl ?_
  refine aw_ild4 X dL_law_754 rfl ?_
  refine aw_iconst X (1) dL_law_756 (by decide) rfl ?_
  refine aw_iadd X dL_law_757 rfl ?_
  refine aw_sld X SX (J + 1) dL_law_758 rfl (nI_plus J 1) (by omega) hL ?_
  refine aw_ald0 X dL_law_759 rfl ?_
  refine aw_ild4 X dL_law_760 rfl ?_
  refine aw_iconst X (2) dL_law_762 (by decide) rfl ?_
  refine aw_iadd X dL_law_763 rfl ?_
  refine aw_sld X SX (J + 2) dL_law_764 rfl (nI_plus J 2) (by omega) hL ?_
  refine aw_ald3 X dL_law_765 rfl ?_
  refine aw_callSO X dL_law_766 rfl (k_L_move X.1 hN w ez ho (xs (J + 1)) (xs (J + 2))) cmhL_move ml_L_129 rfl rfl (Nat.le_of_ble_eq_true rfl) ⟨Nat.le_of_ble_eq_true rfl, Nat.le_of_ble_eq_true rfl⟩ (fun f h2 g9 => f.unhide (h0_out hz0 f (by decide) ho) g9) (fun r h2 hq hf => ?_)
  obtain ⟨rfl, ⟨A2, w2⟩, g2, ho2, hg⟩ := hq
  have fr := hid_fr ho hf
  have hm2 : MoW G h2 2 mo A9 t sm σ := hm.tagK (fun a x e => fr a 2 x e (by decide) (by decide)) ((fr _ _ _ ez.1 (by decide) (by decide)).trans ez.1.symm)
  have ez2 : EZ G h2 := ⟨fr _ _ _ ez.1 (by decide) (by decide), fr _ _ _ ez.2 (by decide) (by decide)⟩
  refine aw_ist5 X dL_law_769 rfl (by decide) rfl ?_
  refine aw_tg (tg2 := 2) hz0 (by decide) ?_
  refine aw_ald2 X dL_law_771 rfl ?_
  refine aw_ald0 X dL_law_772 rfl ?_
  refine aw_ild4 X dL_law_773 rfl ?_
  refine aw_iconst X (1) dL_law_775 (by decide) rfl ?_
  refine aw_iadd X dL_law_776 rfl ?_
  refine aw_sld X SX (J + 1) dL_law_777 rfl (nI_plus J 1) (by omega) hL ?_
  refine aw_ald0 X dL_law_778 rfl ?_
  refine aw_ild4 X dL_law_779 rfl ?_
  refine aw_iconst X (2) dL_law_781 (by decide) rfl ?_
  refine aw_iadd X dL_law_782 rfl ?_
  refine aw_sld X SX (J + 2) dL_law_783 rfl (nI_plus J 2) (by omega) hL ?_
  refine aw_callV X dL_law_784 rfl (k_X7_move X.1 (by decide) hm2 hv (xs (J + 1)) (xs (J + 2))) cmX7_move ml_L_131 rfl hm2.1 rfl rfl (Nat.le_of_ble_eq_true rfl) ⟨Nat.le_of_ble_eq_true rfl, Nat.le_of_ble_eq_true rfl⟩ (fun r h3 hq3 hf3 => ?_)
  obtain ⟨rfl, A3, sm3, w3⟩ := hq3
  have ho3 := hf3.1 _ _ _ ho2 (by decide)
  have w4 := w2.tagK (fun a x e => hf3.1 _ _ _ e (by decide)) ((hf3.1 _ _ _ ez2.1 (by decide)).trans ez2.1.symm)
  have ez3 := ez2.fr hf3 (by decide)
  refine aw_ist6 X dL_law_787 rfl (by decide) rfl ?_
  refine aw_ald2 X dL_law_789 rfl ?_
  refine aw_callV X dL_law_790 rfl (k_X7_thrown X.1 w3) cmX7_thrown ml_L_105 rfl w3.1 rfl rfl (Nat.le_of_ble_eq_true rfl) ⟨Nat.le_of_ble_eq_true rfl, Nat.le_of_ble_eq_true rfl⟩ (aw_rs ?_)
  refine aw_tg (tg2 := 1) hz0 (by decide) ?_
  refine aw_ild5 X dL_law_793 rfl ?_
  refine aw_icmp_eq (n2 := 800) X dL_law_795 rfl rfl (fun _ => ?_) (fun c9 => absurd rfl c9)
  refine aw_ild5 X dL_law_800 rfl ?_
  refine aw_if_ne (n2 := 817) X dL_law_802 rfl rfl (fun c1 => ?_) (fun c1 => ?_)
  · refine aw_goto (n := 1908) X dL_law_817 rfl ?_
    exact k h3 _ _ _ _ _ _ _ ⟨⟨A2, w4⟩, ⟨A3, _, sm3, w3⟩, ⟨g2, ho3⟩, ez3, hIV⟩ (Nat.le_of_eq hb2.symm) (Nat.le_of_eq hd2.symm)
  · have hgv := hg (nI_z hlt c1)
    refine aw_ald3 X dL_law_805 rfl ?_
    refine aw_iconst X (0) dL_law_806 (by decide) rfl ?_
    refine aw_lald X (0) dL_law_807 rfl ho3 rfl (by decide) (by decide) ?_
    refine aw_ild6 X dL_law_808 rfl ?_
    refine aw_i2l X dL_law_810 rfl ?_
    refine aw_lcmp X dL_law_811 rfl ?_
    refine aw_if_eq (n2 := 817) X dL_law_812 rfl rfl (fun _ => ?_) (fun c9 => absurd (lgc_eq hgv) c9)
    refine aw_goto (n := 1908) X dL_law_817 rfl ?_
    exact k h3 _ _ _ _ _ _ _ ⟨⟨A2, w4⟩, ⟨A3, _, sm3, w3⟩, ⟨g2, ho3⟩, ez3, hIV⟩ (Nat.le_of_eq hb2.symm) (Nat.le_of_eq hd2.symm)
set_option maxHeartbeats 4000000 in
set_option maxRecDepth 100000 in
theorem ca_lift {p : Program} {l : Launch} {e : Env} {s : State} {m : MethodId} {below : List Frame} {meth : Method} {c : Code} {Q : State → Prop} {a0 : Array Value} {G : GG} {h0 h : AH} {b L : Nat} {xs : Nat → Int32} {ke mo out J bc bs Cr Dr : Nat} {σ : NS} {y5 y6 y7 y8 : Option Value} (X : MX p l s m meth c s a0 G cL_law "KelirnightLaw" 9) (hN : NX s) (SX : va_X b L xs s s.heap ∧ b < s.heap.size) (hz0 : ∀ b t x, h0 b = some (t, x) → t = 0) (hL : L ≤ 3584) (hJ : J + 7 ≤ L) (I : LawI G ke mo out h σ) (hb : Cr + 1195 + 25 * (540 - iN σ.mi) ≤ bc) (hd : Dr + 4582 + 100 * (540 - iN σ.mi) ≤ bs) (k : ∀ (h2 : AH) (σ2 : NS) (b2 d2 : Nat) (z5 z6 z7 z8 : Option Value), LawI G ke mo out h2 σ2 → Cr + 25 * (540 - iN σ2.mi) ≤ b2 → Dr + 100 * (540 - iN σ2.mi) ≤ d2 → AW p l e room_1 s m #[.ref b] below meth c Q s G 9 1 h0 h2 b2 d2 1908 [some (.ref b), some (.ref ke), some (.ref mo), some (.ref out), some (.int (nI J)), z5, z6, z7, z8] []) : AW p l e room_1 s m #[.ref b] below meth c Q s G 9 1 h0 h bc bs 820 [some (.ref b), some (.ref ke), some (.ref mo), some (.ref out), some (.int (nI J)), y5, y6, y7, y8] [] := by
  obtain ⟨⟨A, w⟩, ⟨A9, t, sm, hm⟩, ⟨g, ho⟩, ez, hv⟩ := I
  have hadv : iN σ.mi ≤ iN (sp_lift σ (xs (J + 1)) (xs (J + 2))).2.2.mi := by rw [mi_lift]; exact Nat.le_refl _
  have hIV : IV (sp_lift σ (xs (J + 1)) (xs (J + 2))).2.2 := iv_lift hv (xs (J + 1)) (xs (J + 2))
  have h540 := hIV.iN540
  have hlt := lt_lift σ (xs (J + 1)) (xs (J + 2))
  obtain ⟨b2, hb2⟩ : ∃ b2, b2 = Cr + 25 * (540 - iN (sp_lift σ (xs (J + 1)) (xs (J + 2))).2.2.mi) := ⟨_, rfl⟩
  obtain ⟨d2, hd2⟩ : ∃ d2, d2 = Dr + 100 * (540 - iN (sp_lift σ (xs (J + 1)) (xs (J + 2))).2.2.mi) := ⟨_, rfl⟩
  refine AW.mono (bc2 := b2 + 1) (bs2 := d2 + 6) (by omega) (by omega) ?_
  refine aw_ald1 X dL_law_820 rfl ?_
  refine aw_ald0 X dL_law_821 rfl ?_
  refine aw_ild4 X dL_law_822 rfl ?_
  refine aw_iconst X (1) dL_law_824 (by decide) rfl ?_
  refine aw_iadd X dL_law_825 rfl ?_
  refine aw_sld X SX (J + 1) dL_law_826 rfl (nI_plus J 1) (by omega) hL ?_
  refine aw_ald0 X dL_law_827 rfl ?_
  refine aw_ild4 X dL_law_828 rfl ?_
  refine aw_iconst X (2) dL_law_830 (by decide) rfl ?_
  refine aw_iadd X dL_law_831 rfl ?_
  refine aw_sld X SX (J + 2) dL_law_832 rfl (nI_plus J 2) (by omega) hL ?_
  refine aw_ald3 X dL_law_833 rfl ?_
  refine aw_callSO X dL_law_834 rfl (k_L_lift X.1 hN w ez ho (xs (J + 1)) (xs (J + 2))) cmhL_lift ml_L_132 rfl rfl (Nat.le_of_ble_eq_true rfl) ⟨Nat.le_of_ble_eq_true rfl, Nat.le_of_ble_eq_true rfl⟩ (fun f h2 g9 => f.unhide (h0_out hz0 f (by decide) ho) g9) (fun r h2 hq hf => ?_)
  obtain ⟨rfl, ⟨A2, w2⟩, g2, ho2, hg⟩ := hq
  have fr := hid_fr ho hf
  have hm2 : MoW G h2 2 mo A9 t sm σ := hm.tagK (fun a x e => fr a 2 x e (by decide) (by decide)) ((fr _ _ _ ez.1 (by decide) (by decide)).trans ez.1.symm)
  have ez2 : EZ G h2 := ⟨fr _ _ _ ez.1 (by decide) (by decide), fr _ _ _ ez.2 (by decide) (by decide)⟩
  refine aw_ist5 X dL_law_837 rfl (by decide) rfl ?_
  refine aw_tg (tg2 := 2) hz0 (by decide) ?_
  refine aw_ald2 X dL_law_839 rfl ?_
  refine aw_ald0 X dL_law_840 rfl ?_
  refine aw_ild4 X dL_law_841 rfl ?_
  refine aw_iconst X (1) dL_law_843 (by decide) rfl ?_
  refine aw_iadd X dL_law_844 rfl ?_
  refine aw_sld X SX (J + 1) dL_law_845 rfl (nI_plus J 1) (by omega) hL ?_
  refine aw_ald0 X dL_law_846 rfl ?_
  refine aw_ild4 X dL_law_847 rfl ?_
  refine aw_iconst X (2) dL_law_849 (by decide) rfl ?_
  refine aw_iadd X dL_law_850 rfl ?_
  refine aw_sld X SX (J + 2) dL_law_851 rfl (nI_plus J 2) (by omega) hL ?_
  refine aw_callV X dL_law_852 rfl (k_X7_lift X.1 (by decide) hm2 hv (xs (J + 1)) (xs (J + 2))) cmX7_lift ml_L_134 rfl hm2.1 rfl rfl (Nat.le_of_ble_eq_true rfl) ⟨Nat.le_of_ble_eq_true rfl, Nat.le_of_ble_eq_true rfl⟩ (fun r h3 hq3 hf3 => ?_)
  obtain ⟨rfl, A3, sm3, w3⟩ := hq3
  have ho3 := hf3.1 _ _ _ ho2 (by decide)
  have w4 := w2.tagK (fun a x e => hf3.1 _ _ _ e (by decide)) ((hf3.1 _ _ _ ez2.1 (by decide)).trans ez2.1.symm)
  have ez3 := ez2.fr hf3 (by decide)
  refine aw_ist6 X dL_law_855 rfl (by decide) rfl ?_
  refine aw_ald2 X dL_law_857 rfl ?_
  refine aw_callV X dL_law_858 rfl (k_X7_thrown X.1 w3) cmX7_thrown ml_L_105 rfl w3.1 rfl rfl (Nat.le_of_ble_eq_true rfl) ⟨Nat.le_of_ble_eq_true rfl, Nat.le_of_ble_eq_true rfl⟩ (aw_rs ?_)
  refine aw_tg (tg2 := 1) hz0 (by decide) ?_
  refine aw_ild5 X dL_law_861 rfl ?_
  refine aw_icmp_eq (n2 := 868) X dL_law_863 rfl rfl (fun _ => ?_) (fun c9 => absurd rfl c9)
  refine aw_ild5 X dL_law_868 rfl ?_
  refine aw_if_ne (n2 := 885) X dL_law_870 rfl rfl (fun c1 => ?_) (fun c1 => ?_)
  · refine aw_goto (n := 1908) X dL_law_885 rfl ?_
    exact k h3 _ _ _ _ _ _ _ ⟨⟨A2, w4⟩, ⟨A3, _, sm3, w3⟩, ⟨g2, ho3⟩, ez3, hIV⟩ (Nat.le_of_eq hb2.symm) (Nat.le_of_eq hd2.symm)
  · have hgv := hg (nI_z hlt c1)
    refine aw_ald3 X dL_law_873 rfl ?_
    refine aw_iconst X (0) dL_law_874 (by decide) rfl ?_
    refine aw_lald X (0) dL_law_875 rfl ho3 rfl (by decide) (by decide) ?_
    refine aw_ild6 X dL_law_876 rfl ?_
    refine aw_i2l X dL_law_878 rfl ?_
    refine aw_lcmp X dL_law_879 rfl ?_
    refine aw_if_eq (n2 := 885) X dL_law_880 rfl rfl (fun _ => ?_) (fun c9 => absurd (lgc_eq hgv) c9)
    refine aw_goto (n := 1908) X dL_law_885 rfl ?_
    exact k h3 _ _ _ _ _ _ _ ⟨⟨A2, w4⟩, ⟨A3, _, sm3, w3⟩, ⟨g2, ho3⟩, ez3, hIV⟩ (Nat.le_of_eq hb2.symm) (Nat.le_of_eq hd2.symm)
set_option maxHeartbeats 4000000 in
set_option maxRecDepth 100000 in
theorem ca_plant {p : Program} {l : Launch} {e : Env} {s : State} {m : MethodId} {below : List Frame} {meth : Method} {c : Code} {Q : State → Prop} {a0 : Array Value} {G : GG} {h0 h : AH} {b L : Nat} {xs : Nat → Int32} {ke mo out J bc bs Cr Dr : Nat} {σ : NS} {y5 y6 y7 y8 : Option Value} (X : MX p l s m meth c s a0 G cL_law "KelirnightLaw" 9) (hN : NX s) (SX : va_X b L xs s s.heap ∧ b < s.heap.size) (hz0 : ∀ b t x, h0 b = some (t, x) → t = 0) (hL : L ≤ 3584) (hJ : J + 7 ≤ L) (I : LawI G ke mo out h σ) (hb : Cr + 1195 + 25 * (540 - iN σ.mi) ≤ bc) (hd : Dr + 4582 + 100 * (540 - iN σ.mi) ≤ bs) (k : ∀ (h2 : AH) (σ2 : NS) (b2 d2 : Nat) (z5 z6 z7 z8 : Option Value), LawI G ke mo out h2 σ2 → Cr + 25 * (540 - iN σ2.mi) ≤ b2 → Dr + 100 * (540 - iN σ2.mi) ≤ d2 → AW p l e room_1 s m #[.ref b] below meth c Q s G 9 1 h0 h2 b2 d2 1908 [some (.ref b), some (.ref ke), some (.ref mo), some (.ref out), some (.int (nI J)), z5, z6, z7, z8] []) : AW p l e room_1 s m #[.ref b] below meth c Q s G 9 1 h0 h bc bs 888 [some (.ref b), some (.ref ke), some (.ref mo), some (.ref out), some (.int (nI J)), y5, y6, y7, y8] [] := by
  obtain ⟨⟨A, w⟩, ⟨A9, t, sm, hm⟩, ⟨g, ho⟩, ez, hv⟩ := I
  have hadv : iN σ.mi ≤ iN (sp_plant σ (xs (J + 1))).2.2.mi := by rw [mi_plant]; exact Nat.le_refl _
  have hIV : IV (sp_plant σ (xs (J + 1))).2.2 := iv_plant hv (xs (J + 1))
  have h540 := hIV.iN540
  have hlt := lt_plant σ (xs (J + 1))
  obtain ⟨b2, hb2⟩ : ∃ b2, b2 = Cr + 25 * (540 - iN (sp_plant σ (xs (J + 1))).2.2.mi) := ⟨_, rfl⟩
  obtain ⟨d2, hd2⟩ : ∃ d2, d2 = Dr + 100 * (540 - iN (sp_plant σ (xs (J + 1))).2.2.mi) := ⟨_, rfl⟩
  refine AW.mono (bc2 := b2 + 1) (bs2 := d2 + 6) (by omega) (by omega) ?_
  refine aw_ald1 X dL_law_888 rfl ?_
  refine aw_ald0 X dL_law_889 rfl ?_
  refine aw_ild4 X dL_law_890 rfl ?_
  refine aw_iconst X (1) dL_law_892 (by decide) rfl ?_
  refine aw_iadd X dL_law_893 rfl ?_
  refine aw_sld X SX (J + 1) dL_law_894 rfl (nI_plus J 1) (by omega) hL ?_
  refine aw_ald3 X dL_law_895 rfl ?_
  refine aw_callSO X dL_law_896 rfl (k_L_plant X.1 hN w ez ho (xs (J + 1))) cmhL_plant ml_L_135 rfl rfl (Nat.le_of_ble_eq_true rfl) ⟨Nat.le_of_ble_eq_true rfl, Nat.le_of_ble_eq_true rfl⟩ (fun f h2 g9 => f.unhide (h0_out hz0 f (by decide) ho) g9) (fun r h2 hq hf => ?_)
  obtain ⟨rfl, ⟨A2, w2⟩, g2, ho2, hg⟩ := hq
  have fr := hid_fr ho hf
  have hm2 : MoW G h2 2 mo A9 t sm σ := hm.tagK (fun a x e => fr a 2 x e (by decide) (by decide)) ((fr _ _ _ ez.1 (by decide) (by decide)).trans ez.1.symm)
  have ez2 : EZ G h2 := ⟨fr _ _ _ ez.1 (by decide) (by decide), fr _ _ _ ez.2 (by decide) (by decide)⟩
  refine aw_ist5 X dL_law_899 rfl (by decide) rfl ?_
  refine aw_tg (tg2 := 2) hz0 (by decide) ?_
  refine aw_ald2 X dL_law_901 rfl ?_
  refine aw_ald0 X dL_law_902 rfl ?_
  refine aw_ild4 X dL_law_903 rfl ?_
  refine aw_iconst X (1) dL_law_905 (by decide) rfl ?_
  refine aw_iadd X dL_law_906 rfl ?_
  refine aw_sld X SX (J + 1) dL_law_907 rfl (nI_plus J 1) (by omega) hL ?_
  refine aw_callV X dL_law_908 rfl (k_X7_plant X.1 (by decide) hm2 hv (xs (J + 1))) cmX7_plant ml_L_137 rfl hm2.1 rfl rfl (Nat.le_of_ble_eq_true rfl) ⟨Nat.le_of_ble_eq_true rfl, Nat.le_of_ble_eq_true rfl⟩ (fun r h3 hq3 hf3 => ?_)
  obtain ⟨rfl, A3, sm3, w3⟩ := hq3
  have ho3 := hf3.1 _ _ _ ho2 (by decide)
  have w4 := w2.tagK (fun a x e => hf3.1 _ _ _ e (by decide)) ((hf3.1 _ _ _ ez2.1 (by decide)).trans ez2.1.symm)
  have ez3 := ez2.fr hf3 (by decide)
  refine aw_ist6 X dL_law_911 rfl (by decide) rfl ?_
  refine aw_ald2 X dL_law_913 rfl ?_
  refine aw_callV X dL_law_914 rfl (k_X7_thrown X.1 w3) cmX7_thrown ml_L_105 rfl w3.1 rfl rfl (Nat.le_of_ble_eq_true rfl) ⟨Nat.le_of_ble_eq_true rfl, Nat.le_of_ble_eq_true rfl⟩ (aw_rs ?_)
  refine aw_tg (tg2 := 1) hz0 (by decide) ?_
  refine aw_ild5 X dL_law_917 rfl ?_
  refine aw_icmp_eq (n2 := 924) X dL_law_919 rfl rfl (fun _ => ?_) (fun c9 => absurd rfl c9)
  refine aw_ild5 X dL_law_924 rfl ?_
  refine aw_if_ne (n2 := 941) X dL_law_926 rfl rfl (fun c1 => ?_) (fun c1 => ?_)
  · refine aw_goto (n := 1908) X dL_law_941 rfl ?_
    exact k h3 _ _ _ _ _ _ _ ⟨⟨A2, w4⟩, ⟨A3, _, sm3, w3⟩, ⟨g2, ho3⟩, ez3, hIV⟩ (Nat.le_of_eq hb2.symm) (Nat.le_of_eq hd2.symm)
  · have hgv := hg (nI_z hlt c1)
    refine aw_ald3 X dL_law_929 rfl ?_
    refine aw_iconst X (0) dL_law_930 (by decide) rfl ?_
    refine aw_lald X (0) dL_law_931 rfl ho3 rfl (by decide) (by decide) ?_
    refine aw_ild6 X dL_law_932 rfl ?_
    refine aw_i2l X dL_law_934 rfl ?_
    refine aw_lcmp X dL_law_935 rfl ?_
    refine aw_if_eq (n2 := 941) X dL_law_936 rfl rfl (fun _ => ?_) (fun c9 => absurd (lgc_eq hgv) c9)
    refine aw_goto (n := 1908) X dL_law_941 rfl ?_
    exact k h3 _ _ _ _ _ _ _ ⟨⟨A2, w4⟩, ⟨A3, _, sm3, w3⟩, ⟨g2, ho3⟩, ez3, hIV⟩ (Nat.le_of_eq hb2.symm) (Nat.le_of_eq hd2.symm)
set_option maxHeartbeats 4000000 in
set_option maxRecDepth 100000 in
theorem ca_hand {p : Program} {l : Launch} {e : Env} {s : State} {m : MethodId} {below : List Frame} {meth : Method} {c : Code} {Q : State → Prop} {a0 : Array Value} {G : GG} {h0 h : AH} {b L : Nat} {xs : Nat → Int32} {ke mo out J bc bs Cr Dr : Nat} {σ : NS} {y5 y6 y7 y8 : Option Value} (X : MX p l s m meth c s a0 G cL_law "KelirnightLaw" 9) (hN : NX s) (SX : va_X b L xs s s.heap ∧ b < s.heap.size) (hz0 : ∀ b t x, h0 b = some (t, x) → t = 0) (hL : L ≤ 3584) (hJ : J + 7 ≤ L) (I : LawI G ke mo out h σ) (hb : Cr + 1195 + 25 * (540 - iN σ.mi) ≤ bc) (hd : Dr + 4582 + 100 * (540 - iN σ.mi) ≤ bs) (k : ∀ (h2 : AH) (σ2 : NS) (b2 d2 : Nat) (z5 z6 z7 z8 : Option Value), LawI G ke mo out h2 σ2 → Cr + 25 * (540 - iN σ2.mi) ≤ b2 → Dr + 100 * (540 - iN σ2.mi) ≤ d2 → AW p l e room_1 s m #[.ref b] below meth c Q s G 9 1 h0 h2 b2 d2 1908 [some (.ref b), some (.ref ke), some (.ref mo), some (.ref out), some (.int (nI J)), z5, z6, z7, z8] []) : AW p l e room_1 s m #[.ref b] below meth c Q s G 9 1 h0 h bc bs 944 [some (.ref b), some (.ref ke), some (.ref mo), some (.ref out), some (.int (nI J)), y5, y6, y7, y8] [] := by
  obtain ⟨⟨A, w⟩, ⟨A9, t, sm, hm⟩, ⟨g, ho⟩, ez, hv⟩ := I
  have hadv : iN σ.mi ≤ iN (sp_hand σ (xs (J + 1))).2.2.mi := by rw [mi_hand]; exact Nat.le_refl _
  have hIV : IV (sp_hand σ (xs (J + 1))).2.2 := iv_hand hv (xs (J + 1))
  have h540 := hIV.iN540
  have hlt := lt_hand σ (xs (J + 1))
  obtain ⟨b2, hb2⟩ : ∃ b2, b2 = Cr + 25 * (540 - iN (sp_hand σ (xs (J + 1))).2.2.mi) := ⟨_, rfl⟩
  obtain ⟨d2, hd2⟩ : ∃ d2, d2 = Dr + 100 * (540 - iN (sp_hand σ (xs (J + 1))).2.2.mi) := ⟨_, rfl⟩
  refine AW.mono (bc2 := b2 + 1 + 1) (bs2 := d2 + 4 + 6) (by omega) (by omega) ?_
  refine aw_ald1 X dL_law_944 rfl ?_
  refine aw_ald0 X dL_law_945 rfl ?_
  refine aw_ild4 X dL_law_946 rfl ?_
  refine aw_iconst X (1) dL_law_948 (by decide) rfl ?_
  refine aw_iadd X dL_law_949 rfl ?_
  refine aw_sld X SX (J + 1) dL_law_950 rfl (nI_plus J 1) (by omega) hL ?_
  refine aw_ald3 X dL_law_951 rfl ?_
  refine aw_callSO X dL_law_952 rfl (k_L_hand X.1 hN w ez ho (xs (J + 1))) cmhL_hand ml_L_138 rfl rfl (Nat.le_of_ble_eq_true rfl) ⟨Nat.le_of_ble_eq_true rfl, Nat.le_of_ble_eq_true rfl⟩ (fun f h2 g9 => f.unhide (h0_out hz0 f (by decide) ho) g9) (fun r h2 hq hf => ?_)
  obtain ⟨rfl, ⟨A2, w2⟩, g2, ho2, hg⟩ := hq
  have fr := hid_fr ho hf
  have hm2 : MoW G h2 2 mo A9 t sm σ := hm.tagK (fun a x e => fr a 2 x e (by decide) (by decide)) ((fr _ _ _ ez.1 (by decide) (by decide)).trans ez.1.symm)
  have ez2 : EZ G h2 := ⟨fr _ _ _ ez.1 (by decide) (by decide), fr _ _ _ ez.2 (by decide) (by decide)⟩
  refine aw_ist5 X dL_law_955 rfl (by decide) rfl ?_
  refine aw_tg (tg2 := 2) hz0 (by decide) ?_
  refine aw_ald2 X dL_law_957 rfl ?_
  refine aw_ald0 X dL_law_958 rfl ?_
  refine aw_ild4 X dL_law_959 rfl ?_
  refine aw_iconst X (1) dL_law_961 (by decide) rfl ?_
  refine aw_iadd X dL_law_962 rfl ?_
  refine aw_sld X SX (J + 1) dL_law_963 rfl (nI_plus J 1) (by omega) hL ?_
  refine aw_callV X dL_law_964 rfl (k_X7_hand X.1 (by decide) hm2 hv (xs (J + 1))) cmX7_hand ml_L_140 rfl hm2.1 rfl rfl (Nat.le_of_ble_eq_true rfl) ⟨Nat.le_of_ble_eq_true rfl, Nat.le_of_ble_eq_true rfl⟩ (fun r h3 hq3 hf3 => ?_)
  obtain ⟨rfl, A3, sm3, w3⟩ := hq3
  have ho3 := hf3.1 _ _ _ ho2 (by decide)
  have w4 := w2.tagK (fun a x e => hf3.1 _ _ _ e (by decide)) ((hf3.1 _ _ _ ez2.1 (by decide)).trans ez2.1.symm)
  have ez3 := ez2.fr hf3 (by decide)
  refine aw_ist6 X dL_law_967 rfl (by decide) rfl ?_
  refine aw_ald2 X dL_law_969 rfl ?_
  refine aw_callV X dL_law_970 rfl (k_X7_thrown X.1 w3) cmX7_thrown ml_L_105 rfl w3.1 rfl rfl (Nat.le_of_ble_eq_true rfl) ⟨Nat.le_of_ble_eq_true rfl, Nat.le_of_ble_eq_true rfl⟩ (aw_rs ?_)
  refine aw_tg (tg2 := 1) hz0 (by decide) ?_
  refine aw_ild5 X dL_law_973 rfl ?_
  refine aw_icmp_eq (n2 := 980) X dL_law_975 rfl rfl (fun _ => ?_) (fun c9 => absurd rfl c9)
  refine aw_ild5 X dL_law_980 rfl ?_
  refine aw_if_ne (n2 := 997) X dL_law_982 rfl rfl (fun c1 => ?_) (fun c1 => ?_)
  · refine aw_goto (n := 1908) X dL_law_997 rfl ?_
    exact k h3 _ _ _ _ _ _ _ ⟨⟨A2, w4⟩, ⟨A3, _, sm3, w3⟩, ⟨g2, ho3⟩, ez3, hIV⟩ (Nat.le_of_eq hb2.symm) (Nat.le_of_eq hd2.symm)
  · have hgv := hg (nI_z hlt c1)
    refine aw_ald3 X dL_law_985 rfl ?_
    refine aw_iconst X (0) dL_law_986 (by decide) rfl ?_
    refine aw_lald X (0) dL_law_987 rfl ho3 rfl (by decide) (by decide) ?_
    refine aw_ild6 X dL_law_988 rfl ?_
    refine aw_i2l X dL_law_990 rfl ?_
    refine aw_lcmp X dL_law_991 rfl ?_
    refine aw_if_eq (n2 := 997) X dL_law_992 rfl rfl (fun _ => ?_) (fun c9 => absurd (lgc_eq hgv) c9)
    refine aw_goto (n := 1908) X dL_law_997 rfl ?_
    exact k h3 _ _ _ _ _ _ _ ⟨⟨A2, w4⟩, ⟨A3, _, sm3, w3⟩, ⟨g2, ho3⟩, ez3, hIV⟩ (Nat.le_of_eq hb2.symm) (Nat.le_of_eq hd2.symm)
set_option maxHeartbeats 4000000 in
set_option maxRecDepth 100000 in
theorem ca_away {p : Program} {l : Launch} {e : Env} {s : State} {m : MethodId} {below : List Frame} {meth : Method} {c : Code} {Q : State → Prop} {a0 : Array Value} {G : GG} {h0 h : AH} {b L : Nat} {xs : Nat → Int32} {ke mo out J bc bs Cr Dr : Nat} {σ : NS} {y5 y6 y7 y8 : Option Value} (X : MX p l s m meth c s a0 G cL_law "KelirnightLaw" 9) (hN : NX s) (SX : va_X b L xs s s.heap ∧ b < s.heap.size) (hz0 : ∀ b t x, h0 b = some (t, x) → t = 0) (hL : L ≤ 3584) (hJ : J + 7 ≤ L) (I : LawI G ke mo out h σ) (hb : Cr + 1195 + 25 * (540 - iN σ.mi) ≤ bc) (hd : Dr + 4582 + 100 * (540 - iN σ.mi) ≤ bs) (k : ∀ (h2 : AH) (σ2 : NS) (b2 d2 : Nat) (z5 z6 z7 z8 : Option Value), LawI G ke mo out h2 σ2 → Cr + 25 * (540 - iN σ2.mi) ≤ b2 → Dr + 100 * (540 - iN σ2.mi) ≤ d2 → AW p l e room_1 s m #[.ref b] below meth c Q s G 9 1 h0 h2 b2 d2 1908 [some (.ref b), some (.ref ke), some (.ref mo), some (.ref out), some (.int (nI J)), z5, z6, z7, z8] []) : AW p l e room_1 s m #[.ref b] below meth c Q s G 9 1 h0 h bc bs 1000 [some (.ref b), some (.ref ke), some (.ref mo), some (.ref out), some (.int (nI J)), y5, y6, y7, y8] [] := by
  obtain ⟨⟨A, w⟩, ⟨A9, t, sm, hm⟩, ⟨g, ho⟩, ez, hv⟩ := I
  have hadv : iN σ.mi ≤ iN (sp_away σ (xs (J + 1))).2.2.mi := by rw [mi_away]; exact Nat.le_refl _
  have hIV : IV (sp_away σ (xs (J + 1))).2.2 := iv_away hv (xs (J + 1))
  have h540 := hIV.iN540
  have hlt := lt_away σ (xs (J + 1))
  obtain ⟨b2, hb2⟩ : ∃ b2, b2 = Cr + 25 * (540 - iN (sp_away σ (xs (J + 1))).2.2.mi) := ⟨_, rfl⟩
  obtain ⟨d2, hd2⟩ : ∃ d2, d2 = Dr + 100 * (540 - iN (sp_away σ (xs (J + 1))).2.2.mi) := ⟨_, rfl⟩
  refine AW.mono (bc2 := b2 + 1 + 1) (bs2 := d2 + 4 + 6) (by omega) (by omega) ?_
  refine aw_ald1 X dL_law_1000 rfl ?_
  refine aw_ald0 X dL_law_1001 rfl ?_
  refine aw_ild4 X dL_law_1002 rfl ?_
  refine aw_iconst X (1) dL_law_1004 (by decide) rfl ?_
  refine aw_iadd X dL_law_1005 rfl ?_
  refine aw_sld X SX (J + 1) dL_law_1006 rfl (nI_plus J 1) (by omega) hL ?_
  refine aw_ald3 X dL_law_1007 rfl ?_
  refine aw_callSO X dL_law_1008 rfl (k_L_away X.1 hN w ez ho (xs (J + 1))) cmhL_away ml_L_141 rfl rfl (Nat.le_of_ble_eq_true rfl) ⟨Nat.le_of_ble_eq_true rfl, Nat.le_of_ble_eq_true rfl⟩ (fun f h2 g9 => f.unhide (h0_out hz0 f (by decide) ho) g9) (fun r h2 hq hf => ?_)
  obtain ⟨rfl, ⟨A2, w2⟩, g2, ho2, hg⟩ := hq
  have fr := hid_fr ho hf
  have hm2 : MoW G h2 2 mo A9 t sm σ := hm.tagK (fun a x e => fr a 2 x e (by decide) (by decide)) ((fr _ _ _ ez.1 (by decide) (by decide)).trans ez.1.symm)
  have ez2 : EZ G h2 := ⟨fr _ _ _ ez.1 (by decide) (by decide), fr _ _ _ ez.2 (by decide) (by decide)⟩
  refine aw_ist5 X dL_law_1011 rfl (by decide) rfl ?_
  refine aw_tg (tg2 := 2) hz0 (by decide) ?_
  refine aw_ald2 X dL_law_1013 rfl ?_
  refine aw_ald0 X dL_law_1014 rfl ?_
  refine aw_ild4 X dL_law_1015 rfl ?_
  refine aw_iconst X (1) dL_law_1017 (by decide) rfl ?_
  refine aw_iadd X dL_law_1018 rfl ?_
  refine aw_sld X SX (J + 1) dL_law_1019 rfl (nI_plus J 1) (by omega) hL ?_
  refine aw_callV X dL_law_1020 rfl (k_X7_away X.1 (by decide) hm2 hv (xs (J + 1))) cmX7_away ml_L_143 rfl hm2.1 rfl rfl (Nat.le_of_ble_eq_true rfl) ⟨Nat.le_of_ble_eq_true rfl, Nat.le_of_ble_eq_true rfl⟩ (fun r h3 hq3 hf3 => ?_)
  obtain ⟨rfl, A3, sm3, w3⟩ := hq3
  have ho3 := hf3.1 _ _ _ ho2 (by decide)
  have w4 := w2.tagK (fun a x e => hf3.1 _ _ _ e (by decide)) ((hf3.1 _ _ _ ez2.1 (by decide)).trans ez2.1.symm)
  have ez3 := ez2.fr hf3 (by decide)
  refine aw_ist6 X dL_law_1023 rfl (by decide) rfl ?_
  refine aw_ald2 X dL_law_1025 rfl ?_
  refine aw_callV X dL_law_1026 rfl (k_X7_thrown X.1 w3) cmX7_thrown ml_L_105 rfl w3.1 rfl rfl (Nat.le_of_ble_eq_true rfl) ⟨Nat.le_of_ble_eq_true rfl, Nat.le_of_ble_eq_true rfl⟩ (aw_rs ?_)
  refine aw_tg (tg2 := 1) hz0 (by decide) ?_
  refine aw_ild5 X dL_law_1029 rfl ?_
  refine aw_icmp_eq (n2 := 1036) X dL_law_1031 rfl rfl (fun _ => ?_) (fun c9 => absurd rfl c9)
  refine aw_ild5 X dL_law_1036 rfl ?_
  refine aw_if_ne (n2 := 1053) X dL_law_1038 rfl rfl (fun c1 => ?_) (fun c1 => ?_)
  · refine aw_goto (n := 1908) X dL_law_1053 rfl ?_
    exact k h3 _ _ _ _ _ _ _ ⟨⟨A2, w4⟩, ⟨A3, _, sm3, w3⟩, ⟨g2, ho3⟩, ez3, hIV⟩ (Nat.le_of_eq hb2.symm) (Nat.le_of_eq hd2.symm)
  · have hgv := hg (nI_z hlt c1)
    refine aw_ald3 X dL_law_1041 rfl ?_
    refine aw_iconst X (0) dL_law_1042 (by decide) rfl ?_
    refine aw_lald X (0) dL_law_1043 rfl ho3 rfl (by decide) (by decide) ?_
    refine aw_ild6 X dL_law_1044 rfl ?_
    refine aw_i2l X dL_law_1046 rfl ?_
    refine aw_lcmp X dL_law_1047 rfl ?_
    refine aw_if_eq (n2 := 1053) X dL_law_1048 rfl rfl (fun _ => ?_) (fun c9 => absurd (lgc_eq hgv) c9)
    refine aw_goto (n := 1908) X dL_law_1053 rfl ?_
    exact k h3 _ _ _ _ _ _ _ ⟨⟨A2, w4⟩, ⟨A3, _, sm3, w3⟩, ⟨g2, ho3⟩, ez3, hIV⟩ (Nat.le_of_eq hb2.symm) (Nat.le_of_eq hd2.symm)
set_option maxHeartbeats 4000000 in
set_option maxRecDepth 100000 in
theorem ca_tap {p : Program} {l : Launch} {e : Env} {s : State} {m : MethodId} {below : List Frame} {meth : Method} {c : Code} {Q : State → Prop} {a0 : Array Value} {G : GG} {h0 h : AH} {b L : Nat} {xs : Nat → Int32} {ke mo out J bc bs Cr Dr : Nat} {σ : NS} {y5 y6 y7 y8 : Option Value} (X : MX p l s m meth c s a0 G cL_law "KelirnightLaw" 9) (hN : NX s) (SX : va_X b L xs s s.heap ∧ b < s.heap.size) (hz0 : ∀ b t x, h0 b = some (t, x) → t = 0) (hL : L ≤ 3584) (hJ : J + 7 ≤ L) (I : LawI G ke mo out h σ) (hb : Cr + 1195 + 25 * (540 - iN σ.mi) ≤ bc) (hd : Dr + 4582 + 100 * (540 - iN σ.mi) ≤ bs) (k : ∀ (h2 : AH) (σ2 : NS) (b2 d2 : Nat) (z5 z6 z7 z8 : Option Value), LawI G ke mo out h2 σ2 → Cr + 25 * (540 - iN σ2.mi) ≤ b2 → Dr + 100 * (540 - iN σ2.mi) ≤ d2 → AW p l e room_1 s m #[.ref b] below meth c Q s G 9 1 h0 h2 b2 d2 1908 [some (.ref b), some (.ref ke), some (.ref mo), some (.ref out), some (.int (nI J)), z5, z6, z7, z8] []) : AW p l e room_1 s m #[.ref b] below meth c Q s G 9 1 h0 h bc bs 1056 [some (.ref b), some (.ref ke), some (.ref mo), some (.ref out), some (.int (nI J)), y5, y6, y7, y8] [] := by
  obtain ⟨⟨A, w⟩, ⟨A9, t, sm, hm⟩, ⟨g, ho⟩, ez, hv⟩ := I
  have hadv : iN σ.mi ≤ iN (sp_tap σ (xs (J + 1))).2.2.mi := by rw [mi_tap]; exact Nat.le_refl _
  have hIV : IV (sp_tap σ (xs (J + 1))).2.2 := iv_tap hv (xs (J + 1))
  have h540 := hIV.iN540
  have hlt := lt_tap σ (xs (J + 1))
  obtain ⟨b2, hb2⟩ : ∃ b2, b2 = Cr + 25 * (540 - iN (sp_tap σ (xs (J + 1))).2.2.mi) := ⟨_, rfl⟩
  obtain ⟨d2, hd2⟩ : ∃ d2, d2 = Dr + 100 * (540 - iN (sp_tap σ (xs (J + 1))).2.2.mi) := ⟨_, rfl⟩
  refine AW.mono (bc2 := b2 + 1) (bs2 := d2 + 6) (by omega) (by omega) ?_
  refine aw_ald1 X dL_law_1056 rfl ?_
  refine aw_ald0 X dL_law_1057 rfl ?_
  refine aw_ild4 X dL_law_1058 rfl ?_
  refine aw_iconst X (1) dL_law_1060 (by decide) rfl ?_
  refine aw_iadd X dL_law_1061 rfl ?_
  refine aw_sld X SX (J + 1) dL_law_1062 rfl (nI_plus J 1) (by omega) hL ?_
  refine aw_ald3 X dL_law_1063 rfl ?_
  refine aw_callSO X dL_law_1064 rfl (k_L_tap X.1 hN w ez ho (xs (J + 1))) cmhL_tap ml_L_144 rfl rfl (Nat.le_of_ble_eq_true rfl) ⟨Nat.le_of_ble_eq_true rfl, Nat.le_of_ble_eq_true rfl⟩ (fun f h2 g9 => f.unhide (h0_out hz0 f (by decide) ho) g9) (fun r h2 hq hf => ?_)
  obtain ⟨rfl, ⟨A2, w2⟩, g2, ho2, hg⟩ := hq
  have fr := hid_fr ho hf
  have hm2 : MoW G h2 2 mo A9 t sm σ := hm.tagK (fun a x e => fr a 2 x e (by decide) (by decide)) ((fr _ _ _ ez.1 (by decide) (by decide)).trans ez.1.symm)
  have ez2 : EZ G h2 := ⟨fr _ _ _ ez.1 (by decide) (by decide), fr _ _ _ ez.2 (by decide) (by decide)⟩
  refine aw_ist5 X dL_law_1067 rfl (by decide) rfl ?_
  refine aw_tg (tg2 := 2) hz0 (by decide) ?_
  refine aw_ald2 X dL_law_1069 rfl ?_
  refine aw_ald0 X dL_law_1070 rfl ?_
  refine aw_ild4 X dL_law_1071 rfl ?_
  refine aw_iconst X (1) dL_law_1073 (by decide) rfl ?_
  refine aw_iadd X dL_law_1074 rfl ?_
  refine aw_sld X SX (J + 1) dL_law_1075 rfl (nI_plus J 1) (by omega) hL ?_
  refine aw_callV X dL_law_1076 rfl (k_X7_tap X.1 (by decide) hm2 hv (xs (J + 1))) cmX7_tap ml_L_146 rfl hm2.1 rfl rfl (Nat.le_of_ble_eq_true rfl) ⟨Nat.le_of_ble_eq_true rfl, Nat.le_of_ble_eq_true rfl⟩ (fun r h3 hq3 hf3 => ?_)
  obtain ⟨rfl, A3, sm3, w3⟩ := hq3
  have ho3 := hf3.1 _ _ _ ho2 (by decide)
  have w4 := w2.tagK (fun a x e => hf3.1 _ _ _ e (by decide)) ((hf3.1 _ _ _ ez2.1 (by decide)).trans ez2.1.symm)
  have ez3 := ez2.fr hf3 (by decide)
  refine aw_ist6 X dL_law_1079 rfl (by decide) rfl ?_
  refine aw_ald2 X dL_law_1081 rfl ?_
  refine aw_callV X dL_law_1082 rfl (k_X7_thrown X.1 w3) cmX7_thrown ml_L_105 rfl w3.1 rfl rfl (Nat.le_of_ble_eq_true rfl) ⟨Nat.le_of_ble_eq_true rfl, Nat.le_of_ble_eq_true rfl⟩ (aw_rs ?_)
  refine aw_tg (tg2 := 1) hz0 (by decide) ?_
  refine aw_ild5 X dL_law_1085 rfl ?_
  refine aw_icmp_eq (n2 := 1092) X dL_law_1087 rfl rfl (fun _ => ?_) (fun c9 => absurd rfl c9)
  refine aw_ild5 X dL_law_1092 rfl ?_
  refine aw_if_ne (n2 := 1116) X dL_law_1094 rfl rfl (fun c1 => ?_) (fun c1 => ?_)
  · refine aw_goto (n := 1908) X dL_law_1116 rfl ?_
    exact k h3 _ _ _ _ _ _ _ ⟨⟨A2, w4⟩, ⟨A3, _, sm3, w3⟩, ⟨g2, ho3⟩, ez3, hIV⟩ (Nat.le_of_eq hb2.symm) (Nat.le_of_eq hd2.symm)
  · have hgv := hg (nI_z hlt c1)
    refine aw_ald3 X dL_law_1097 rfl ?_
    refine aw_iconst X (0) dL_law_1098 (by decide) rfl ?_
    refine aw_lald X (0) dL_law_1099 rfl ho3 rfl (by decide) (by decide) ?_
    refine aw_ild6 X dL_law_1100 rfl ?_
    refine aw_if_eq (n2 := 1109) X dL_law_1102 rfl rfl (fun c2 => ?_) (fun c2 => ?_)
    · refine aw_lconst X (0) dL_law_1109 (by decide) rfl ?_
      refine aw_lcmp X dL_law_1110 rfl ?_
      refine aw_if_eq (n2 := 1116) X dL_law_1111 rfl rfl (fun _ => ?_) (fun c9 => absurd (lgc_eq (hgv.trans (if_pos c2))) c9)
      refine aw_goto (n := 1908) X dL_law_1116 rfl ?_
      exact k h3 _ _ _ _ _ _ _ ⟨⟨A2, w4⟩, ⟨A3, _, sm3, w3⟩, ⟨g2, ho3⟩, ez3, hIV⟩ (Nat.le_of_eq hb2.symm) (Nat.le_of_eq hd2.symm)
    · refine aw_lconst X (1) dL_law_1105 (by decide) rfl ?_
      refine aw_goto (n := 1110) X dL_law_1106 rfl ?_
      refine aw_lcmp X dL_law_1110 rfl ?_
      refine aw_if_eq (n2 := 1116) X dL_law_1111 rfl rfl (fun _ => ?_) (fun c9 => absurd (lgc_eq (hgv.trans (if_neg c2))) c9)
      refine aw_goto (n := 1908) X dL_law_1116 rfl ?_
      exact k h3 _ _ _ _ _ _ _ ⟨⟨A2, w4⟩, ⟨A3, _, sm3, w3⟩, ⟨g2, ho3⟩, ez3, hIV⟩ (Nat.le_of_eq hb2.symm) (Nat.le_of_eq hd2.symm)
set_option maxHeartbeats 4000000 in
set_option maxRecDepth 100000 in
theorem ca_speak {p : Program} {l : Launch} {e : Env} {s : State} {m : MethodId} {below : List Frame} {meth : Method} {c : Code} {Q : State → Prop} {a0 : Array Value} {G : GG} {h0 h : AH} {b L : Nat} {xs : Nat → Int32} {ke mo out J bc bs Cr Dr : Nat} {σ : NS} {y5 y6 y7 y8 : Option Value} (X : MX p l s m meth c s a0 G cL_law "KelirnightLaw" 9) (hN : NX s) (SX : va_X b L xs s s.heap ∧ b < s.heap.size) (hz0 : ∀ b t x, h0 b = some (t, x) → t = 0) (hL : L ≤ 3584) (hJ : J + 7 ≤ L) (I : LawI G ke mo out h σ) (hb : Cr + 1195 + 25 * (540 - iN σ.mi) ≤ bc) (hd : Dr + 4582 + 100 * (540 - iN σ.mi) ≤ bs) (k : ∀ (h2 : AH) (σ2 : NS) (b2 d2 : Nat) (z5 z6 z7 z8 : Option Value), LawI G ke mo out h2 σ2 → Cr + 25 * (540 - iN σ2.mi) ≤ b2 → Dr + 100 * (540 - iN σ2.mi) ≤ d2 → AW p l e room_1 s m #[.ref b] below meth c Q s G 9 1 h0 h2 b2 d2 1908 [some (.ref b), some (.ref ke), some (.ref mo), some (.ref out), some (.int (nI J)), z5, z6, z7, z8] []) : AW p l e room_1 s m #[.ref b] below meth c Q s G 9 1 h0 h bc bs 1119 [some (.ref b), some (.ref ke), some (.ref mo), some (.ref out), some (.int (nI J)), y5, y6, y7, y8] [] := by
  obtain ⟨⟨A, w⟩, ⟨A9, t, sm, hm⟩, ⟨g, ho⟩, ez, hv⟩ := I
  have hadv := adv_speak hv (xs (J + 1)) (xs (J + 2)) (xs (J + 3)) (xs (J + 4))
  obtain ⟨m9, hm9⟩ : ∃ m9, m9 = (if (sp_speak σ (xs (J + 1)) (xs (J + 2)) (xs (J + 3)) (xs (J + 4))).1 = 0 then iN (xs (J + 3)) else 0) := ⟨_, rfl⟩
  rw [← hm9] at hadv
  have hmm : (sp_speak σ (xs (J + 1)) (xs (J + 2)) (xs (J + 3)) (xs (J + 4))).1 = 0 → iN (xs (J + 3)) ≤ m9 := fun q => by rw [hm9, if_pos q]; exact Nat.le_refl _
  have hIV : IV (sp_speak σ (xs (J + 1)) (xs (J + 2)) (xs (J + 3)) (xs (J + 4))).2.2 := iv_speak hv (xs (J + 1)) (xs (J + 2)) (xs (J + 3)) (xs (J + 4))
  have h540 := hIV.iN540
  have hlt := lt_speak σ (xs (J + 1)) (xs (J + 2)) (xs (J + 3)) (xs (J + 4))
  obtain ⟨b2, hb2⟩ : ∃ b2, b2 = Cr + 25 * (540 - iN (sp_speak σ (xs (J + 1)) (xs (J + 2)) (xs (J + 3)) (xs (J + 4))).2.2.mi) := ⟨_, rfl⟩
  obtain ⟨d2, hd2⟩ : ∃ d2, d2 = Dr + 100 * (540 - iN (sp_speak σ (xs (J + 1)) (xs (J + 2)) (xs (J + 3)) (xs (J + 4))).2.2.mi) := ⟨_, rfl⟩
  refine AW.mono (bc2 := b2 + (25 * m9 + 1) + 1) (bs2 := d2 + (100 * m9 + 4) + 6) (by omega) (by omega) ?_
  refine aw_ald1 X dL_law_1119 rfl ?_
  refine aw_ald0 X dL_law_1120 rfl ?_
  refine aw_ild4 X dL_law_1121 rfl ?_
  refine aw_iconst X (1) dL_law_1123 (by decide) rfl ?_
  refine aw_iadd X dL_law_1124 rfl ?_
  refine aw_sld X SX (J + 1) dL_law_1125 rfl (nI_plus J 1) (by omega) hL ?_
  refine aw_ald0 X dL_law_1126 rfl ?_
  refine aw_ild4 X dL_law_1127 rfl ?_
  refine aw_iconst X (2) dL_law_1129 (by decide) rfl ?_
  refine aw_iadd X dL_law_1130 rfl ?_
  refine aw_sld X SX (J + 2) dL_law_1131 rfl (nI_plus J 2) (by omega) hL ?_
  refine aw_ald0 X dL_law_1132 rfl ?_
  refine aw_ild4 X dL_law_1133 rfl ?_
  refine aw_iconst X (3) dL_law_1135 (by decide) rfl ?_
  refine aw_iadd X dL_law_1136 rfl ?_
  refine aw_sld X SX (J + 3) dL_law_1137 rfl (nI_plus J 3) (by omega) hL ?_
  refine aw_ald0 X dL_law_1138 rfl ?_
  refine aw_ild4 X dL_law_1139 rfl ?_
  refine aw_iconst X (4) dL_law_1141 (by decide) rfl ?_
  refine aw_iadd X dL_law_1142 rfl ?_
  refine aw_sld X SX (J + 4) dL_law_1143 rfl (nI_plus J 4) (by omega) hL ?_
  refine aw_ald3 X dL_law_1144 rfl ?_
  refine aw_callSO X dL_law_1145 rfl (k_L_speak X.1 hN w ez ho hv (xs (J + 1)) (xs (J + 2)) (xs (J + 3)) (xs (J + 4))) cmhL_speak ml_L_147 rfl rfl (Nat.le_of_ble_eq_true rfl) ⟨Nat.le_of_ble_eq_true rfl, Nat.le_of_ble_eq_true rfl⟩ (fun f h2 g9 => f.unhide (h0_out hz0 f (by decide) ho) g9) (fun r h2 hq hf => ?_)
  obtain ⟨rfl, ⟨A2, w2⟩, g2, ho2, hg⟩ := hq
  have fr := hid_fr ho hf
  have hm2 : MoW G h2 2 mo A9 t sm σ := hm.tagK (fun a x e => fr a 2 x e (by decide) (by decide)) ((fr _ _ _ ez.1 (by decide) (by decide)).trans ez.1.symm)
  have ez2 : EZ G h2 := ⟨fr _ _ _ ez.1 (by decide) (by decide), fr _ _ _ ez.2 (by decide) (by decide)⟩
  refine aw_ist5 X dL_law_1148 rfl (by decide) rfl ?_
  refine aw_tg (tg2 := 2) hz0 (by decide) ?_
  refine aw_ald2 X dL_law_1150 rfl ?_
  refine aw_ald0 X dL_law_1151 rfl ?_
  refine aw_ild4 X dL_law_1152 rfl ?_
  refine aw_iconst X (1) dL_law_1154 (by decide) rfl ?_
  refine aw_iadd X dL_law_1155 rfl ?_
  refine aw_sld X SX (J + 1) dL_law_1156 rfl (nI_plus J 1) (by omega) hL ?_
  refine aw_ald0 X dL_law_1157 rfl ?_
  refine aw_ild4 X dL_law_1158 rfl ?_
  refine aw_iconst X (2) dL_law_1160 (by decide) rfl ?_
  refine aw_iadd X dL_law_1161 rfl ?_
  refine aw_sld X SX (J + 2) dL_law_1162 rfl (nI_plus J 2) (by omega) hL ?_
  refine aw_ald0 X dL_law_1163 rfl ?_
  refine aw_ild4 X dL_law_1164 rfl ?_
  refine aw_iconst X (3) dL_law_1166 (by decide) rfl ?_
  refine aw_iadd X dL_law_1167 rfl ?_
  refine aw_sld X SX (J + 3) dL_law_1168 rfl (nI_plus J 3) (by omega) hL ?_
  refine aw_ald0 X dL_law_1169 rfl ?_
  refine aw_ild4 X dL_law_1170 rfl ?_
  refine aw_iconst X (4) dL_law_1172 (by decide) rfl ?_
  refine aw_iadd X dL_law_1173 rfl ?_
  refine aw_sld X SX (J + 4) dL_law_1174 rfl (nI_plus J 4) (by omega) hL ?_
  refine aw_callV X dL_law_1175 rfl (k_X7_speak X.1 (by decide) hm2 hv (xs (J + 1)) (xs (J + 2)) (xs (J + 3)) (xs (J + 4)) (m9 := m9) hmm) cmX7_speak ml_L_150 rfl hm2.1 rfl rfl (Nat.le_of_ble_eq_true rfl) ⟨Nat.le_of_ble_eq_true rfl, Nat.le_of_ble_eq_true rfl⟩ (fun r h3 hq3 hf3 => ?_)
  obtain ⟨rfl, A3, sm3, w3⟩ := hq3
  have ho3 := hf3.1 _ _ _ ho2 (by decide)
  have w4 := w2.tagK (fun a x e => hf3.1 _ _ _ e (by decide)) ((hf3.1 _ _ _ ez2.1 (by decide)).trans ez2.1.symm)
  have ez3 := ez2.fr hf3 (by decide)
  refine aw_ist6 X dL_law_1178 rfl (by decide) rfl ?_
  refine aw_ald2 X dL_law_1180 rfl ?_
  refine aw_callV X dL_law_1181 rfl (k_X7_thrown X.1 w3) cmX7_thrown ml_L_105 rfl w3.1 rfl rfl (Nat.le_of_ble_eq_true rfl) ⟨Nat.le_of_ble_eq_true rfl, Nat.le_of_ble_eq_true rfl⟩ (aw_rs ?_)
  refine aw_tg (tg2 := 1) hz0 (by decide) ?_
  refine aw_ild5 X dL_law_1184 rfl ?_
  refine aw_icmp_eq (n2 := 1191) X dL_law_1186 rfl rfl (fun _ => ?_) (fun c9 => absurd rfl c9)
  refine aw_ild5 X dL_law_1191 rfl ?_
  refine aw_if_ne (n2 := 1208) X dL_law_1193 rfl rfl (fun c1 => ?_) (fun c1 => ?_)
  · refine aw_goto (n := 1908) X dL_law_1208 rfl ?_
    exact k h3 _ _ _ _ _ _ _ ⟨⟨A2, w4⟩, ⟨A3, _, sm3, w3⟩, ⟨g2, ho3⟩, ez3, hIV⟩ (Nat.le_of_eq hb2.symm) (Nat.le_of_eq hd2.symm)
  · have hgv := hg (nI_z hlt c1)
    refine aw_ald3 X dL_law_1196 rfl ?_
    refine aw_iconst X (0) dL_law_1197 (by decide) rfl ?_
    refine aw_lald X (0) dL_law_1198 rfl ho3 rfl (by decide) (by decide) ?_
    refine aw_ild6 X dL_law_1199 rfl ?_
    refine aw_i2l X dL_law_1201 rfl ?_
    refine aw_lcmp X dL_law_1202 rfl ?_
    refine aw_if_eq (n2 := 1208) X dL_law_1203 rfl rfl (fun _ => ?_) (fun c9 => absurd (lgc_eq hgv) c9)
    refine aw_goto (n := 1908) X dL_law_1208 rfl ?_
    exact k h3 _ _ _ _ _ _ _ ⟨⟨A2, w4⟩, ⟨A3, _, sm3, w3⟩, ⟨g2, ho3⟩, ez3, hIV⟩ (Nat.le_of_eq hb2.symm) (Nat.le_of_eq hd2.symm)
set_option maxHeartbeats 4000000 in
set_option maxRecDepth 100000 in
theorem ca_joke {p : Program} {l : Launch} {e : Env} {s : State} {m : MethodId} {below : List Frame} {meth : Method} {c : Code} {Q : State → Prop} {a0 : Array Value} {G : GG} {h0 h : AH} {b L : Nat} {xs : Nat → Int32} {ke mo out J bc bs Cr Dr : Nat} {σ : NS} {y5 y6 y7 y8 : Option Value} (X : MX p l s m meth c s a0 G cL_law "KelirnightLaw" 9) (hN : NX s) (SX : va_X b L xs s s.heap ∧ b < s.heap.size) (hz0 : ∀ b t x, h0 b = some (t, x) → t = 0) (hL : L ≤ 3584) (hJ : J + 7 ≤ L) (I : LawI G ke mo out h σ) (hb : Cr + 1195 + 25 * (540 - iN σ.mi) ≤ bc) (hd : Dr + 4582 + 100 * (540 - iN σ.mi) ≤ bs) (k : ∀ (h2 : AH) (σ2 : NS) (b2 d2 : Nat) (z5 z6 z7 z8 : Option Value), LawI G ke mo out h2 σ2 → Cr + 25 * (540 - iN σ2.mi) ≤ b2 → Dr + 100 * (540 - iN σ2.mi) ≤ d2 → AW p l e room_1 s m #[.ref b] below meth c Q s G 9 1 h0 h2 b2 d2 1908 [some (.ref b), some (.ref ke), some (.ref mo), some (.ref out), some (.int (nI J)), z5, z6, z7, z8] []) : AW p l e room_1 s m #[.ref b] below meth c Q s G 9 1 h0 h bc bs 1211 [some (.ref b), some (.ref ke), some (.ref mo), some (.ref out), some (.int (nI J)), y5, y6, y7, y8] [] := by
  obtain ⟨⟨A, w⟩, ⟨A9, t, sm, hm⟩, ⟨g, ho⟩, ez, hv⟩ := I
  have hadv : iN σ.mi ≤ iN (sp_joke σ (xs (J + 1))).2.2.mi := by rw [mi_joke]; exact Nat.le_refl _
  have hIV : IV (sp_joke σ (xs (J + 1))).2.2 := iv_joke hv (xs (J + 1))
  have h540 := hIV.iN540
  have hlt := lt_joke σ (xs (J + 1))
  obtain ⟨b2, hb2⟩ : ∃ b2, b2 = Cr + 25 * (540 - iN (sp_joke σ (xs (J + 1))).2.2.mi) := ⟨_, rfl⟩
  obtain ⟨d2, hd2⟩ : ∃ d2, d2 = Dr + 100 * (540 - iN (sp_joke σ (xs (J + 1))).2.2.mi) := ⟨_, rfl⟩
  refine AW.mono (bc2 := b2 + 1) (bs2 := d2 + 6) (by omega) (by omega) ?_
  refine aw_ald1 X dL_law_1211 rfl ?_
  refine aw_ald0 X dL_law_1212 rfl ?_
  refine aw_ild4 X dL_law_1213 rfl ?_
  refine aw_iconst X (1) dL_law_1215 (by decide) rfl ?_
  refine aw_iadd X dL_law_1216 rfl ?_
  refine aw_sld X SX (J + 1) dL_law_1217 rfl (nI_plus J 1) (by omega) hL ?_
  refine aw_ald3 X dL_law_1218 rfl ?_
  refine aw_callSO X dL_law_1219 rfl (k_L_joke X.1 hN w ez ho (xs (J + 1))) cmhL_joke ml_L_151 rfl rfl (Nat.le_of_ble_eq_true rfl) ⟨Nat.le_of_ble_eq_true rfl, Nat.le_of_ble_eq_true rfl⟩ (fun f h2 g9 => f.unhide (h0_out hz0 f (by decide) ho) g9) (fun r h2 hq hf => ?_)
  obtain ⟨rfl, ⟨A2, w2⟩, g2, ho2, hg⟩ := hq
  have fr := hid_fr ho hf
  have hm2 : MoW G h2 2 mo A9 t sm σ := hm.tagK (fun a x e => fr a 2 x e (by decide) (by decide)) ((fr _ _ _ ez.1 (by decide) (by decide)).trans ez.1.symm)
  have ez2 : EZ G h2 := ⟨fr _ _ _ ez.1 (by decide) (by decide), fr _ _ _ ez.2 (by decide) (by decide)⟩
  refine aw_ist5 X dL_law_1222 rfl (by decide) rfl ?_
  refine aw_tg (tg2 := 2) hz0 (by decide) ?_
  refine aw_ald2 X dL_law_1224 rfl ?_
  refine aw_ald0 X dL_law_1225 rfl ?_
  refine aw_ild4 X dL_law_1226 rfl ?_
  refine aw_iconst X (1) dL_law_1228 (by decide) rfl ?_
  refine aw_iadd X dL_law_1229 rfl ?_
  refine aw_sld X SX (J + 1) dL_law_1230 rfl (nI_plus J 1) (by omega) hL ?_
  refine aw_callV X dL_law_1231 rfl (k_X7_joke X.1 (by decide) hm2 (xs (J + 1))) cmX7_joke ml_L_153 rfl hm2.1 rfl rfl (Nat.le_of_ble_eq_true rfl) ⟨Nat.le_of_ble_eq_true rfl, Nat.le_of_ble_eq_true rfl⟩ (fun r h3 hq3 hf3 => ?_)
  obtain ⟨rfl, A3, sm3, w3⟩ := hq3
  have ho3 := hf3.1 _ _ _ ho2 (by decide)
  have w4 := w2.tagK (fun a x e => hf3.1 _ _ _ e (by decide)) ((hf3.1 _ _ _ ez2.1 (by decide)).trans ez2.1.symm)
  have ez3 := ez2.fr hf3 (by decide)
  refine aw_ist6 X dL_law_1234 rfl (by decide) rfl ?_
  refine aw_ald2 X dL_law_1236 rfl ?_
  refine aw_callV X dL_law_1237 rfl (k_X7_thrown X.1 w3) cmX7_thrown ml_L_105 rfl w3.1 rfl rfl (Nat.le_of_ble_eq_true rfl) ⟨Nat.le_of_ble_eq_true rfl, Nat.le_of_ble_eq_true rfl⟩ (aw_rs ?_)
  refine aw_tg (tg2 := 1) hz0 (by decide) ?_
  refine aw_ild5 X dL_law_1240 rfl ?_
  refine aw_icmp_eq (n2 := 1247) X dL_law_1242 rfl rfl (fun _ => ?_) (fun c9 => absurd rfl c9)
  refine aw_ild5 X dL_law_1247 rfl ?_
  refine aw_if_ne (n2 := 1264) X dL_law_1249 rfl rfl (fun c1 => ?_) (fun c1 => ?_)
  · refine aw_goto (n := 1908) X dL_law_1264 rfl ?_
    exact k h3 _ _ _ _ _ _ _ ⟨⟨A2, w4⟩, ⟨A3, _, sm3, w3⟩, ⟨g2, ho3⟩, ez3, hIV⟩ (Nat.le_of_eq hb2.symm) (Nat.le_of_eq hd2.symm)
  · have hgv := hg (nI_z hlt c1)
    refine aw_ald3 X dL_law_1252 rfl ?_
    refine aw_iconst X (0) dL_law_1253 (by decide) rfl ?_
    refine aw_lald X (0) dL_law_1254 rfl ho3 rfl (by decide) (by decide) ?_
    refine aw_ild6 X dL_law_1255 rfl ?_
    refine aw_i2l X dL_law_1257 rfl ?_
    refine aw_lcmp X dL_law_1258 rfl ?_
    refine aw_if_eq (n2 := 1264) X dL_law_1259 rfl rfl (fun _ => ?_) (fun c9 => absurd (lgc_eq hgv) c9)
    refine aw_goto (n := 1908) X dL_law_1264 rfl ?_
    exact k h3 _ _ _ _ _ _ _ ⟨⟨A2, w4⟩, ⟨A3, _, sm3, w3⟩, ⟨g2, ho3⟩, ez3, hIV⟩ (Nat.le_of_eq hb2.symm) (Nat.le_of_eq hd2.symm)
set_option maxHeartbeats 4000000 in
set_option maxRecDepth 100000 in
theorem ca_offer {p : Program} {l : Launch} {e : Env} {s : State} {m : MethodId} {below : List Frame} {meth : Method} {c : Code} {Q : State → Prop} {a0 : Array Value} {G : GG} {h0 h : AH} {b L : Nat} {xs : Nat → Int32} {ke mo out J bc bs Cr Dr : Nat} {σ : NS} {y5 y6 y7 y8 : Option Value} (X : MX p l s m meth c s a0 G cL_law "KelirnightLaw" 9) (hN : NX s) (SX : va_X b L xs s s.heap ∧ b < s.heap.size) (hz0 : ∀ b t x, h0 b = some (t, x) → t = 0) (hL : L ≤ 3584) (hJ : J + 7 ≤ L) (I : LawI G ke mo out h σ) (hb : Cr + 1195 + 25 * (540 - iN σ.mi) ≤ bc) (hd : Dr + 4582 + 100 * (540 - iN σ.mi) ≤ bs) (k : ∀ (h2 : AH) (σ2 : NS) (b2 d2 : Nat) (z5 z6 z7 z8 : Option Value), LawI G ke mo out h2 σ2 → Cr + 25 * (540 - iN σ2.mi) ≤ b2 → Dr + 100 * (540 - iN σ2.mi) ≤ d2 → AW p l e room_1 s m #[.ref b] below meth c Q s G 9 1 h0 h2 b2 d2 1908 [some (.ref b), some (.ref ke), some (.ref mo), some (.ref out), some (.int (nI J)), z5, z6, z7, z8] []) : AW p l e room_1 s m #[.ref b] below meth c Q s G 9 1 h0 h bc bs 1267 [some (.ref b), some (.ref ke), some (.ref mo), some (.ref out), some (.int (nI J)), y5, y6, y7, y8] [] := by
  obtain ⟨⟨A, w⟩, ⟨A9, t, sm, hm⟩, ⟨g, ho⟩, ez, hv⟩ := I
  have hadv := adv_offer hv
  obtain ⟨m9, hm9⟩ : ∃ m9, m9 = (if (sp_offer σ).1 = 0 then 3 else 0) := ⟨_, rfl⟩
  rw [← hm9] at hadv
  have hmm : (sp_offer σ).1 = 0 → 3 ≤ m9 := fun q => by rw [hm9, if_pos q]; exact Nat.le_refl _
  have hIV : IV (sp_offer σ).2.2 := iv_offer hv
  have h540 := hIV.iN540
  have hlt := lt_offer σ
  obtain ⟨b2, hb2⟩ : ∃ b2, b2 = Cr + 25 * (540 - iN (sp_offer σ).2.2.mi) := ⟨_, rfl⟩
  obtain ⟨d2, hd2⟩ : ∃ d2, d2 = Dr + 100 * (540 - iN (sp_offer σ).2.2.mi) := ⟨_, rfl⟩
  refine AW.mono (bc2 := b2 + (25 * m9) + 1) (bs2 := d2 + (100 * m9) + 6) (by omega) (by omega) ?_
  refine aw_ald1 X dL_law_1267 rfl ?_
  refine aw_ald3 X dL_law_1268 rfl ?_
  refine aw_callSO X dL_law_1269 rfl (k_L_offer X.1 hN w ez ho hv) cmhL_offer ml_L_154 rfl rfl (Nat.le_of_ble_eq_true rfl) ⟨Nat.le_of_ble_eq_true rfl, Nat.le_of_ble_eq_true rfl⟩ (fun f h2 g9 => f.unhide (h0_out hz0 f (by decide) ho) g9) (fun r h2 hq hf => ?_)
  obtain ⟨rfl, ⟨A2, w2⟩, g2, ho2, hg⟩ := hq
  have fr := hid_fr ho hf
  have hm2 : MoW G h2 2 mo A9 t sm σ := hm.tagK (fun a x e => fr a 2 x e (by decide) (by decide)) ((fr _ _ _ ez.1 (by decide) (by decide)).trans ez.1.symm)
  have ez2 : EZ G h2 := ⟨fr _ _ _ ez.1 (by decide) (by decide), fr _ _ _ ez.2 (by decide) (by decide)⟩
  refine aw_ist5 X dL_law_1272 rfl (by decide) rfl ?_
  refine aw_tg (tg2 := 2) hz0 (by decide) ?_
  refine aw_ald2 X dL_law_1274 rfl ?_
  refine aw_callV X dL_law_1275 rfl (k_X7_offer X.1 (by decide) hm2 hv (m9 := m9) hmm) cmX7_offer ml_L_157 rfl hm2.1 rfl rfl (Nat.le_of_ble_eq_true rfl) ⟨Nat.le_of_ble_eq_true rfl, Nat.le_of_ble_eq_true rfl⟩ (fun r h3 hq3 hf3 => ?_)
  obtain ⟨rfl, A3, sm3, w3⟩ := hq3
  have ho3 := hf3.1 _ _ _ ho2 (by decide)
  have w4 := w2.tagK (fun a x e => hf3.1 _ _ _ e (by decide)) ((hf3.1 _ _ _ ez2.1 (by decide)).trans ez2.1.symm)
  have ez3 := ez2.fr hf3 (by decide)
  refine aw_ist6 X dL_law_1278 rfl (by decide) rfl ?_
  refine aw_ald2 X dL_law_1280 rfl ?_
  refine aw_callV X dL_law_1281 rfl (k_X7_thrown X.1 w3) cmX7_thrown ml_L_105 rfl w3.1 rfl rfl (Nat.le_of_ble_eq_true rfl) ⟨Nat.le_of_ble_eq_true rfl, Nat.le_of_ble_eq_true rfl⟩ (aw_rs ?_)
  refine aw_tg (tg2 := 1) hz0 (by decide) ?_
  refine aw_ild5 X dL_law_1284 rfl ?_
  refine aw_icmp_eq (n2 := 1291) X dL_law_1286 rfl rfl (fun _ => ?_) (fun c9 => absurd rfl c9)
  refine aw_ild5 X dL_law_1291 rfl ?_
  refine aw_if_ne (n2 := 1308) X dL_law_1293 rfl rfl (fun c1 => ?_) (fun c1 => ?_)
  · refine aw_goto (n := 1908) X dL_law_1308 rfl ?_
    exact k h3 _ _ _ _ _ _ _ ⟨⟨A2, w4⟩, ⟨A3, _, sm3, w3⟩, ⟨g2, ho3⟩, ez3, hIV⟩ (Nat.le_of_eq hb2.symm) (Nat.le_of_eq hd2.symm)
  · have hgv := hg (nI_z hlt c1)
    refine aw_ald3 X dL_law_1296 rfl ?_
    refine aw_iconst X (0) dL_law_1297 (by decide) rfl ?_
    refine aw_lald X (0) dL_law_1298 rfl ho3 rfl (by decide) (by decide) ?_
    refine aw_ild6 X dL_law_1299 rfl ?_
    refine aw_i2l X dL_law_1301 rfl ?_
    refine aw_lcmp X dL_law_1302 rfl ?_
    refine aw_if_eq (n2 := 1308) X dL_law_1303 rfl rfl (fun _ => ?_) (fun c9 => absurd (lgc_eq hgv) c9)
    refine aw_goto (n := 1908) X dL_law_1308 rfl ?_
    exact k h3 _ _ _ _ _ _ _ ⟨⟨A2, w4⟩, ⟨A3, _, sm3, w3⟩, ⟨g2, ho3⟩, ez3, hIV⟩ (Nat.le_of_eq hb2.symm) (Nat.le_of_eq hd2.symm)
set_option maxHeartbeats 4000000 in
set_option maxRecDepth 100000 in
theorem ca_pass {p : Program} {l : Launch} {e : Env} {s : State} {m : MethodId} {below : List Frame} {meth : Method} {c : Code} {Q : State → Prop} {a0 : Array Value} {G : GG} {h0 h : AH} {b L : Nat} {xs : Nat → Int32} {ke mo out J bc bs Cr Dr : Nat} {σ : NS} {y5 y6 y7 y8 : Option Value} (X : MX p l s m meth c s a0 G cL_law "KelirnightLaw" 9) (hN : NX s) (SX : va_X b L xs s s.heap ∧ b < s.heap.size) (hz0 : ∀ b t x, h0 b = some (t, x) → t = 0) (hL : L ≤ 3584) (hJ : J + 7 ≤ L) (I : LawI G ke mo out h σ) (hb : Cr + 1195 + 25 * (540 - iN σ.mi) ≤ bc) (hd : Dr + 4582 + 100 * (540 - iN σ.mi) ≤ bs) (k : ∀ (h2 : AH) (σ2 : NS) (b2 d2 : Nat) (z5 z6 z7 z8 : Option Value), LawI G ke mo out h2 σ2 → Cr + 25 * (540 - iN σ2.mi) ≤ b2 → Dr + 100 * (540 - iN σ2.mi) ≤ d2 → AW p l e room_1 s m #[.ref b] below meth c Q s G 9 1 h0 h2 b2 d2 1908 [some (.ref b), some (.ref ke), some (.ref mo), some (.ref out), some (.int (nI J)), z5, z6, z7, z8] []) : AW p l e room_1 s m #[.ref b] below meth c Q s G 9 1 h0 h bc bs 1311 [some (.ref b), some (.ref ke), some (.ref mo), some (.ref out), some (.int (nI J)), y5, y6, y7, y8] [] := by
  obtain ⟨⟨A, w⟩, ⟨A9, t, sm, hm⟩, ⟨g, ho⟩, ez, hv⟩ := I
  have hadv := adv_pass hv (xs (J + 1))
  obtain ⟨m9, hm9⟩ : ∃ m9, m9 = (if (sp_pass σ (xs (J + 1))).1 = 0 then iN (xs (J + 1)) else 0) := ⟨_, rfl⟩
  rw [← hm9] at hadv
  have hmm : (sp_pass σ (xs (J + 1))).1 = 0 → iN (xs (J + 1)) ≤ m9 := fun q => by rw [hm9, if_pos q]; exact Nat.le_refl _
  have hIV : IV (sp_pass σ (xs (J + 1))).2.2 := iv_pass hv (xs (J + 1))
  have h540 := hIV.iN540
  have hlt := lt_pass σ (xs (J + 1))
  obtain ⟨b2, hb2⟩ : ∃ b2, b2 = Cr + 25 * (540 - iN (sp_pass σ (xs (J + 1))).2.2.mi) := ⟨_, rfl⟩
  obtain ⟨d2, hd2⟩ : ∃ d2, d2 = Dr + 100 * (540 - iN (sp_pass σ (xs (J + 1))).2.2.mi) := ⟨_, rfl⟩
  refine AW.mono (bc2 := b2 + (25 * m9) + 1) (bs2 := d2 + (100 * m9) + 6) (by omega) (by omega) ?_
  refine aw_ald1 X dL_law_1311 rfl ?_
  refine aw_ald0 X dL_law_1312 rfl ?_
  refine aw_ild4 X dL_law_1313 rfl ?_
  refine aw_iconst X (1) dL_law_1315 (by decide) rfl ?_
  refine aw_iadd X dL_law_1316 rfl ?_
  refine aw_sld X SX (J + 1) dL_law_1317 rfl (nI_plus J 1) (by omega) hL ?_
  refine aw_ald3 X dL_law_1318 rfl ?_
  refine aw_callSO X dL_law_1319 rfl (k_L_pass X.1 hN w ez ho hv (xs (J + 1))) cmhL_pass ml_L_158 rfl rfl (Nat.le_of_ble_eq_true rfl) ⟨Nat.le_of_ble_eq_true rfl, Nat.le_of_ble_eq_true rfl⟩ (fun f h2 g9 => f.unhide (h0_out hz0 f (by decide) ho) g9) (fun r h2 hq hf => ?_)
  obtain ⟨rfl, ⟨A2, w2⟩, g2, ho2, hg⟩ := hq
  have fr := hid_fr ho hf
  have hm2 : MoW G h2 2 mo A9 t sm σ := hm.tagK (fun a x e => fr a 2 x e (by decide) (by decide)) ((fr _ _ _ ez.1 (by decide) (by decide)).trans ez.1.symm)
  have ez2 : EZ G h2 := ⟨fr _ _ _ ez.1 (by decide) (by decide), fr _ _ _ ez.2 (by decide) (by decide)⟩
  refine aw_ist5 X dL_law_1322 rfl (by decide) rfl ?_
  refine aw_tg (tg2 := 2) hz0 (by decide) ?_
  refine aw_ald2 X dL_law_1324 rfl ?_
  refine aw_ald0 X dL_law_1325 rfl ?_
  refine aw_ild4 X dL_law_1326 rfl ?_
  refine aw_iconst X (1) dL_law_1328 (by decide) rfl ?_
  refine aw_iadd X dL_law_1329 rfl ?_
  refine aw_sld X SX (J + 1) dL_law_1330 rfl (nI_plus J 1) (by omega) hL ?_
  refine aw_callV X dL_law_1331 rfl (k_X7_pass X.1 (by decide) hm2 hv (xs (J + 1)) (m9 := m9) hmm) cmX7_pass ml_L_160 rfl hm2.1 rfl rfl (Nat.le_of_ble_eq_true rfl) ⟨Nat.le_of_ble_eq_true rfl, Nat.le_of_ble_eq_true rfl⟩ (fun r h3 hq3 hf3 => ?_)
  obtain ⟨rfl, A3, sm3, w3⟩ := hq3
  have ho3 := hf3.1 _ _ _ ho2 (by decide)
  have w4 := w2.tagK (fun a x e => hf3.1 _ _ _ e (by decide)) ((hf3.1 _ _ _ ez2.1 (by decide)).trans ez2.1.symm)
  have ez3 := ez2.fr hf3 (by decide)
  refine aw_ist6 X dL_law_1334 rfl (by decide) rfl ?_
  refine aw_ald2 X dL_law_1336 rfl ?_
  refine aw_callV X dL_law_1337 rfl (k_X7_thrown X.1 w3) cmX7_thrown ml_L_105 rfl w3.1 rfl rfl (Nat.le_of_ble_eq_true rfl) ⟨Nat.le_of_ble_eq_true rfl, Nat.le_of_ble_eq_true rfl⟩ (aw_rs ?_)
  refine aw_tg (tg2 := 1) hz0 (by decide) ?_
  refine aw_ild5 X dL_law_1340 rfl ?_
  refine aw_icmp_eq (n2 := 1347) X dL_law_1342 rfl rfl (fun _ => ?_) (fun c9 => absurd rfl c9)
  refine aw_ild5 X dL_law_1347 rfl ?_
  refine aw_if_ne (n2 := 1364) X dL_law_1349 rfl rfl (fun c1 => ?_) (fun c1 => ?_)
  · refine aw_goto (n := 1908) X dL_law_1364 rfl ?_
    exact k h3 _ _ _ _ _ _ _ ⟨⟨A2, w4⟩, ⟨A3, _, sm3, w3⟩, ⟨g2, ho3⟩, ez3, hIV⟩ (Nat.le_of_eq hb2.symm) (Nat.le_of_eq hd2.symm)
  · have hgv := hg (nI_z hlt c1)
    refine aw_ald3 X dL_law_1352 rfl ?_
    refine aw_iconst X (0) dL_law_1353 (by decide) rfl ?_
    refine aw_lald X (0) dL_law_1354 rfl ho3 rfl (by decide) (by decide) ?_
    refine aw_ild6 X dL_law_1355 rfl ?_
    refine aw_i2l X dL_law_1357 rfl ?_
    refine aw_lcmp X dL_law_1358 rfl ?_
    refine aw_if_eq (n2 := 1364) X dL_law_1359 rfl rfl (fun _ => ?_) (fun c9 => absurd (lgc_eq hgv) c9)
    refine aw_goto (n := 1908) X dL_law_1364 rfl ?_
    exact k h3 _ _ _ _ _ _ _ ⟨⟨A2, w4⟩, ⟨A3, _, sm3, w3⟩, ⟨g2, ho3⟩, ez3, hIV⟩ (Nat.le_of_eq hb2.symm) (Nat.le_of_eq hd2.symm)
set_option maxHeartbeats 4000000 in
set_option maxRecDepth 100000 in
theorem ca_knows {p : Program} {l : Launch} {e : Env} {s : State} {m : MethodId} {below : List Frame} {meth : Method} {c : Code} {Q : State → Prop} {a0 : Array Value} {G : GG} {h0 h : AH} {b L : Nat} {xs : Nat → Int32} {ke mo out J bc bs Cr Dr : Nat} {σ : NS} {y5 y6 y7 y8 : Option Value} (X : MX p l s m meth c s a0 G cL_law "KelirnightLaw" 9) (hN : NX s) (SX : va_X b L xs s s.heap ∧ b < s.heap.size) (hz0 : ∀ b t x, h0 b = some (t, x) → t = 0) (hL : L ≤ 3584) (hJ : J + 7 ≤ L) (I : LawI G ke mo out h σ) (hb : Cr + 1195 + 25 * (540 - iN σ.mi) ≤ bc) (hd : Dr + 4582 + 100 * (540 - iN σ.mi) ≤ bs) (k : ∀ (h2 : AH) (σ2 : NS) (b2 d2 : Nat) (z5 z6 z7 z8 : Option Value), LawI G ke mo out h2 σ2 → Cr + 25 * (540 - iN σ2.mi) ≤ b2 → Dr + 100 * (540 - iN σ2.mi) ≤ d2 → AW p l e room_1 s m #[.ref b] below meth c Q s G 9 1 h0 h2 b2 d2 1908 [some (.ref b), some (.ref ke), some (.ref mo), some (.ref out), some (.int (nI J)), z5, z6, z7, z8] []) : AW p l e room_1 s m #[.ref b] below meth c Q s G 9 1 h0 h bc bs 1367 [some (.ref b), some (.ref ke), some (.ref mo), some (.ref out), some (.int (nI J)), y5, y6, y7, y8] [] := by
  obtain ⟨⟨A, w⟩, ⟨A9, t, sm, hm⟩, ⟨g, ho⟩, ez, hv⟩ := I
  have hadv : iN σ.mi ≤ iN (sp_knows σ (xs (J + 1)) (xs (J + 2))).2.2.mi := by rw [mi_knows]; exact Nat.le_refl _
  have hIV : IV (sp_knows σ (xs (J + 1)) (xs (J + 2))).2.2 := by rw [same_knows]; exact hv
  have h540 := hIV.iN540
  have hlt := lt_knows σ (xs (J + 1)) (xs (J + 2))
  obtain ⟨b2, hb2⟩ : ∃ b2, b2 = Cr + 25 * (540 - iN (sp_knows σ (xs (J + 1)) (xs (J + 2))).2.2.mi) := ⟨_, rfl⟩
  obtain ⟨d2, hd2⟩ : ∃ d2, d2 = Dr + 100 * (540 - iN (sp_knows σ (xs (J + 1)) (xs (J + 2))).2.2.mi) := ⟨_, rfl⟩
  refine AW.mono (bc2 := b2 + 11 + 1) (bs2 := d2 + 40 + 6) (by omega) (by omega) ?_
  refine aw_ald1 X dL_law_1367 rfl ?_
  refine aw_ald0 X dL_law_1368 rfl ?_
  refine aw_ild4 X dL_law_1369 rfl ?_
  refine aw_iconst X (1) dL_law_1371 (by decide) rfl ?_
  refine aw_iadd X dL_law_1372 rfl ?_
  refine aw_sld X SX (J + 1) dL_law_1373 rfl (nI_plus J 1) (by omega) hL ?_
  refine aw_ald0 X dL_law_1374 rfl ?_
  refine aw_ild4 X dL_law_1375 rfl ?_
  refine aw_iconst X (2) dL_law_1377 (by decide) rfl ?_
  refine aw_iadd X dL_law_1378 rfl ?_
  refine aw_sld X SX (J + 2) dL_law_1379 rfl (nI_plus J 2) (by omega) hL ?_
  refine aw_ald3 X dL_law_1380 rfl ?_
  refine aw_callSO X dL_law_1381 rfl (k_L_knows X.1 hN w ez ho (xs (J + 1)) (xs (J + 2))) cmhL_knows ml_L_161 rfl rfl (Nat.le_of_ble_eq_true rfl) ⟨Nat.le_of_ble_eq_true rfl, Nat.le_of_ble_eq_true rfl⟩ (fun f h2 g9 => f.unhide (h0_out hz0 f (by decide) ho) g9) (fun r h2 hq hf => ?_)
  obtain ⟨rfl, ⟨A2, w2⟩, g2, ho2, hg⟩ := hq
  have fr := hid_fr ho hf
  have hm2 : MoW G h2 2 mo A9 t sm σ := hm.tagK (fun a x e => fr a 2 x e (by decide) (by decide)) ((fr _ _ _ ez.1 (by decide) (by decide)).trans ez.1.symm)
  have ez2 : EZ G h2 := ⟨fr _ _ _ ez.1 (by decide) (by decide), fr _ _ _ ez.2 (by decide) (by decide)⟩
  refine aw_ist5 X dL_law_1384 rfl (by decide) rfl ?_
  refine aw_tg (tg2 := 2) hz0 (by decide) ?_
  refine aw_ald2 X dL_law_1386 rfl ?_
  refine aw_ald0 X dL_law_1387 rfl ?_
  refine aw_ild4 X dL_law_1388 rfl ?_
  refine aw_iconst X (1) dL_law_1390 (by decide) rfl ?_
  refine aw_iadd X dL_law_1391 rfl ?_
  refine aw_sld X SX (J + 1) dL_law_1392 rfl (nI_plus J 1) (by omega) hL ?_
  refine aw_ald0 X dL_law_1393 rfl ?_
  refine aw_ild4 X dL_law_1394 rfl ?_
  refine aw_iconst X (2) dL_law_1396 (by decide) rfl ?_
  refine aw_iadd X dL_law_1397 rfl ?_
  refine aw_sld X SX (J + 2) dL_law_1398 rfl (nI_plus J 2) (by omega) hL ?_
  refine aw_callV X dL_law_1399 rfl (k_X7_knows X.1 (by decide) hm2 hv (xs (J + 1)) (xs (J + 2))) cmX7_knows ml_L_163 rfl hm2.1 rfl rfl (Nat.le_of_ble_eq_true rfl) ⟨Nat.le_of_ble_eq_true rfl, Nat.le_of_ble_eq_true rfl⟩ (fun r h3 hq3 hf3 => ?_)
  obtain ⟨rfl, A3, sm3, w3⟩ := hq3
  have ho3 := hf3.1 _ _ _ ho2 (by decide)
  have w4 := w2.tagK (fun a x e => hf3.1 _ _ _ e (by decide)) ((hf3.1 _ _ _ ez2.1 (by decide)).trans ez2.1.symm)
  have ez3 := ez2.fr hf3 (by decide)
  refine aw_ist6 X dL_law_1402 rfl (by decide) rfl ?_
  refine aw_ald2 X dL_law_1404 rfl ?_
  refine aw_callV X dL_law_1405 rfl (k_X7_thrown X.1 w3) cmX7_thrown ml_L_105 rfl w3.1 rfl rfl (Nat.le_of_ble_eq_true rfl) ⟨Nat.le_of_ble_eq_true rfl, Nat.le_of_ble_eq_true rfl⟩ (aw_rs ?_)
  refine aw_tg (tg2 := 1) hz0 (by decide) ?_
  refine aw_ild5 X dL_law_1408 rfl ?_
  refine aw_icmp_eq (n2 := 1415) X dL_law_1410 rfl rfl (fun _ => ?_) (fun c9 => absurd rfl c9)
  refine aw_ild5 X dL_law_1415 rfl ?_
  refine aw_if_ne (n2 := 1439) X dL_law_1417 rfl rfl (fun c1 => ?_) (fun c1 => ?_)
  · refine aw_goto (n := 1908) X dL_law_1439 rfl ?_
    exact k h3 _ _ _ _ _ _ _ ⟨⟨A2, w4⟩, ⟨A3, _, sm3, w3⟩, ⟨g2, ho3⟩, ez3, hIV⟩ (Nat.le_of_eq hb2.symm) (Nat.le_of_eq hd2.symm)
  · have hgv := hg (nI_z hlt c1)
    refine aw_ald3 X dL_law_1420 rfl ?_
    refine aw_iconst X (0) dL_law_1421 (by decide) rfl ?_
    refine aw_lald X (0) dL_law_1422 rfl ho3 rfl (by decide) (by decide) ?_
    refine aw_ild6 X dL_law_1423 rfl ?_
    refine aw_if_eq (n2 := 1432) X dL_law_1425 rfl rfl (fun c2 => ?_) (fun c2 => ?_)
    · refine aw_lconst X (0) dL_law_1432 (by decide) rfl ?_
      refine aw_lcmp X dL_law_1433 rfl ?_
      refine aw_if_eq (n2 := 1439) X dL_law_1434 rfl rfl (fun _ => ?_) (fun c9 => absurd (lgc_eq (hgv.trans (if_pos c2))) c9)
      refine aw_goto (n := 1908) X dL_law_1439 rfl ?_
      exact k h3 _ _ _ _ _ _ _ ⟨⟨A2, w4⟩, ⟨A3, _, sm3, w3⟩, ⟨g2, ho3⟩, ez3, hIV⟩ (Nat.le_of_eq hb2.symm) (Nat.le_of_eq hd2.symm)
    · refine aw_lconst X (1) dL_law_1428 (by decide) rfl ?_
      refine aw_goto (n := 1433) X dL_law_1429 rfl ?_
      refine aw_lcmp X dL_law_1433 rfl ?_
      refine aw_if_eq (n2 := 1439) X dL_law_1434 rfl rfl (fun _ => ?_) (fun c9 => absurd (lgc_eq (hgv.trans (if_neg c2))) c9)
      refine aw_goto (n := 1908) X dL_law_1439 rfl ?_
      exact k h3 _ _ _ _ _ _ _ ⟨⟨A2, w4⟩, ⟨A3, _, sm3, w3⟩, ⟨g2, ho3⟩, ez3, hIV⟩ (Nat.le_of_eq hb2.symm) (Nat.le_of_eq hd2.symm)
set_option maxHeartbeats 4000000 in
set_option maxRecDepth 100000 in
theorem ca_ofFigure {p : Program} {l : Launch} {e : Env} {s : State} {m : MethodId} {below : List Frame} {meth : Method} {c : Code} {Q : State → Prop} {a0 : Array Value} {G : GG} {h0 h : AH} {b L : Nat} {xs : Nat → Int32} {ke mo out J bc bs Cr Dr : Nat} {σ : NS} {y5 y6 y7 y8 : Option Value} (X : MX p l s m meth c s a0 G cL_law "KelirnightLaw" 9) (hN : NX s) (SX : va_X b L xs s s.heap ∧ b < s.heap.size) (hz0 : ∀ b t x, h0 b = some (t, x) → t = 0) (hL : L ≤ 3584) (hJ : J + 7 ≤ L) (I : LawI G ke mo out h σ) (hb : Cr + 1195 + 25 * (540 - iN σ.mi) ≤ bc) (hd : Dr + 4582 + 100 * (540 - iN σ.mi) ≤ bs) (k : ∀ (h2 : AH) (σ2 : NS) (b2 d2 : Nat) (z5 z6 z7 z8 : Option Value), LawI G ke mo out h2 σ2 → Cr + 25 * (540 - iN σ2.mi) ≤ b2 → Dr + 100 * (540 - iN σ2.mi) ≤ d2 → AW p l e room_1 s m #[.ref b] below meth c Q s G 9 1 h0 h2 b2 d2 1908 [some (.ref b), some (.ref ke), some (.ref mo), some (.ref out), some (.int (nI J)), z5, z6, z7, z8] []) : AW p l e room_1 s m #[.ref b] below meth c Q s G 9 1 h0 h bc bs 1442 [some (.ref b), some (.ref ke), some (.ref mo), some (.ref out), some (.int (nI J)), y5, y6, y7, y8] [] := by
  obtain ⟨⟨A, w⟩, ⟨A9, t, sm, hm⟩, ⟨g, ho⟩, ez, hv⟩ := I
  have hadv : iN σ.mi ≤ iN (sp_ofFigure σ (xs (J + 1)) (xs (J + 2))).2.2.mi := by rw [mi_ofFigure]; exact Nat.le_refl _
  have hIV : IV (sp_ofFigure σ (xs (J + 1)) (xs (J + 2))).2.2 := by rw [same_ofFigure]; exact hv
  have h540 := hIV.iN540
  have hlt := lt_ofFigure σ (xs (J + 1)) (xs (J + 2))
  obtain ⟨b2, hb2⟩ : ∃ b2, b2 = Cr + 25 * (540 - iN (sp_ofFigure σ (xs (J + 1)) (xs (J + 2))).2.2.mi) := ⟨_, rfl⟩
  obtain ⟨d2, hd2⟩ : ∃ d2, d2 = Dr + 100 * (540 - iN (sp_ofFigure σ (xs (J + 1)) (xs (J + 2))).2.2.mi) := ⟨_, rfl⟩
  refine AW.mono (bc2 := b2 + 1) (bs2 := d2 + 6) (by omega) (by omega) ?_
  refine aw_ald1 X dL_law_1442 rfl ?_
  refine aw_ald0 X dL_law_1443 rfl ?_
  refine aw_ild4 X dL_law_1444 rfl ?_
  refine aw_iconst X (1) dL_law_1446 (by decide) rfl ?_
  refine aw_iadd X dL_law_1447 rfl ?_
  refine aw_sld X SX (J + 1) dL_law_1448 rfl (nI_plus J 1) (by omega) hL ?_
  refine aw_ald0 X dL_law_1449 rfl ?_
  refine aw_ild4 X dL_law_1450 rfl ?_
  refine aw_iconst X (2) dL_law_1452 (by decide) rfl ?_
  refine aw_iadd X dL_law_1453 rfl ?_
  refine aw_sld X SX (J + 2) dL_law_1454 rfl (nI_plus J 2) (by omega) hL ?_
  refine aw_ald3 X dL_law_1455 rfl ?_
  refine aw_callSO X dL_law_1456 rfl (k_L_ofFigure X.1 hN w ez ho (xs (J + 1)) (xs (J + 2))) cmhL_ofFigure ml_L_164 rfl rfl (Nat.le_of_ble_eq_true rfl) ⟨Nat.le_of_ble_eq_true rfl, Nat.le_of_ble_eq_true rfl⟩ (fun f h2 g9 => f.unhide (h0_out hz0 f (by decide) ho) g9) (fun r h2 hq hf => ?_)
  obtain ⟨rfl, ⟨A2, w2⟩, g2, ho2, hg⟩ := hq
  have fr := hid_fr ho hf
  have hm2 : MoW G h2 2 mo A9 t sm σ := hm.tagK (fun a x e => fr a 2 x e (by decide) (by decide)) ((fr _ _ _ ez.1 (by decide) (by decide)).trans ez.1.symm)
  have ez2 : EZ G h2 := ⟨fr _ _ _ ez.1 (by decide) (by decide), fr _ _ _ ez.2 (by decide) (by decide)⟩
  refine aw_ist5 X dL_law_1459 rfl (by decide) rfl ?_
  refine aw_tg (tg2 := 2) hz0 (by decide) ?_
  refine aw_ald2 X dL_law_1461 rfl ?_
  refine aw_ald0 X dL_law_1462 rfl ?_
  refine aw_ild4 X dL_law_1463 rfl ?_
  refine aw_iconst X (1) dL_law_1465 (by decide) rfl ?_
  refine aw_iadd X dL_law_1466 rfl ?_
  refine aw_sld X SX (J + 1) dL_law_1467 rfl (nI_plus J 1) (by omega) hL ?_
  refine aw_ald0 X dL_law_1468 rfl ?_
  refine aw_ild4 X dL_law_1469 rfl ?_
  refine aw_iconst X (2) dL_law_1471 (by decide) rfl ?_
  refine aw_iadd X dL_law_1472 rfl ?_
  refine aw_sld X SX (J + 2) dL_law_1473 rfl (nI_plus J 2) (by omega) hL ?_
  refine aw_callV X dL_law_1474 rfl (k_X7_ofFigure X.1 (by decide) hm2 hv (xs (J + 1)) (xs (J + 2))) cmX7_ofFigure ml_L_166 rfl hm2.1 rfl rfl (Nat.le_of_ble_eq_true rfl) ⟨Nat.le_of_ble_eq_true rfl, Nat.le_of_ble_eq_true rfl⟩ (fun r h3 hq3 hf3 => ?_)
  obtain ⟨rfl, A3, sm3, w3⟩ := hq3
  have ho3 := hf3.1 _ _ _ ho2 (by decide)
  have w4 := w2.tagK (fun a x e => hf3.1 _ _ _ e (by decide)) ((hf3.1 _ _ _ ez2.1 (by decide)).trans ez2.1.symm)
  have ez3 := ez2.fr hf3 (by decide)
  refine aw_ist6 X dL_law_1477 rfl (by decide) rfl ?_
  refine aw_ald2 X dL_law_1479 rfl ?_
  refine aw_callV X dL_law_1480 rfl (k_X7_thrown X.1 w3) cmX7_thrown ml_L_105 rfl w3.1 rfl rfl (Nat.le_of_ble_eq_true rfl) ⟨Nat.le_of_ble_eq_true rfl, Nat.le_of_ble_eq_true rfl⟩ (aw_rs ?_)
  refine aw_tg (tg2 := 1) hz0 (by decide) ?_
  refine aw_ild5 X dL_law_1483 rfl ?_
  refine aw_icmp_eq (n2 := 1490) X dL_law_1485 rfl rfl (fun _ => ?_) (fun c9 => absurd rfl c9)
  refine aw_ild5 X dL_law_1490 rfl ?_
  refine aw_if_ne (n2 := 1507) X dL_law_1492 rfl rfl (fun c1 => ?_) (fun c1 => ?_)
  · refine aw_goto (n := 1908) X dL_law_1507 rfl ?_
    exact k h3 _ _ _ _ _ _ _ ⟨⟨A2, w4⟩, ⟨A3, _, sm3, w3⟩, ⟨g2, ho3⟩, ez3, hIV⟩ (Nat.le_of_eq hb2.symm) (Nat.le_of_eq hd2.symm)
  · have hgv := hg (nI_z hlt c1)
    refine aw_ald3 X dL_law_1495 rfl ?_
    refine aw_iconst X (0) dL_law_1496 (by decide) rfl ?_
    refine aw_lald X (0) dL_law_1497 rfl ho3 rfl (by decide) (by decide) ?_
    refine aw_ild6 X dL_law_1498 rfl ?_
    refine aw_i2l X dL_law_1500 rfl ?_
    refine aw_lcmp X dL_law_1501 rfl ?_
    refine aw_if_eq (n2 := 1507) X dL_law_1502 rfl rfl (fun _ => ?_) (fun c9 => absurd (lgc_eq hgv) c9)
    refine aw_goto (n := 1908) X dL_law_1507 rfl ?_
    exact k h3 _ _ _ _ _ _ _ ⟨⟨A2, w4⟩, ⟨A3, _, sm3, w3⟩, ⟨g2, ho3⟩, ez3, hIV⟩ (Nat.le_of_eq hb2.symm) (Nat.le_of_eq hd2.symm)
set_option maxHeartbeats 4000000 in
set_option maxRecDepth 100000 in
theorem ca_ofScene {p : Program} {l : Launch} {e : Env} {s : State} {m : MethodId} {below : List Frame} {meth : Method} {c : Code} {Q : State → Prop} {a0 : Array Value} {G : GG} {h0 h : AH} {b L : Nat} {xs : Nat → Int32} {ke mo out J bc bs Cr Dr : Nat} {σ : NS} {y5 y6 y7 y8 : Option Value} (X : MX p l s m meth c s a0 G cL_law "KelirnightLaw" 9) (hN : NX s) (SX : va_X b L xs s s.heap ∧ b < s.heap.size) (hz0 : ∀ b t x, h0 b = some (t, x) → t = 0) (hL : L ≤ 3584) (hJ : J + 7 ≤ L) (I : LawI G ke mo out h σ) (hb : Cr + 1195 + 25 * (540 - iN σ.mi) ≤ bc) (hd : Dr + 4582 + 100 * (540 - iN σ.mi) ≤ bs) (k : ∀ (h2 : AH) (σ2 : NS) (b2 d2 : Nat) (z5 z6 z7 z8 : Option Value), LawI G ke mo out h2 σ2 → Cr + 25 * (540 - iN σ2.mi) ≤ b2 → Dr + 100 * (540 - iN σ2.mi) ≤ d2 → AW p l e room_1 s m #[.ref b] below meth c Q s G 9 1 h0 h2 b2 d2 1908 [some (.ref b), some (.ref ke), some (.ref mo), some (.ref out), some (.int (nI J)), z5, z6, z7, z8] []) : AW p l e room_1 s m #[.ref b] below meth c Q s G 9 1 h0 h bc bs 1510 [some (.ref b), some (.ref ke), some (.ref mo), some (.ref out), some (.int (nI J)), y5, y6, y7, y8] [] := by
  obtain ⟨⟨A, w⟩, ⟨A9, t, sm, hm⟩, ⟨g, ho⟩, ez, hv⟩ := I
  have hadv : iN σ.mi ≤ iN (sp_ofScene σ (xs (J + 1)) (xs (J + 2))).2.2.mi := by rw [mi_ofScene]; exact Nat.le_refl _
  have hIV : IV (sp_ofScene σ (xs (J + 1)) (xs (J + 2))).2.2 := by rw [same_ofScene]; exact hv
  have h540 := hIV.iN540
  have hlt := lt_ofScene σ (xs (J + 1)) (xs (J + 2))
  obtain ⟨b2, hb2⟩ : ∃ b2, b2 = Cr + 25 * (540 - iN (sp_ofScene σ (xs (J + 1)) (xs (J + 2))).2.2.mi) := ⟨_, rfl⟩
  obtain ⟨d2, hd2⟩ : ∃ d2, d2 = Dr + 100 * (540 - iN (sp_ofScene σ (xs (J + 1)) (xs (J + 2))).2.2.mi) := ⟨_, rfl⟩
  refine AW.mono (bc2 := b2 + 11 + 1) (bs2 := d2 + 40 + 6) (by omega) (by omega) ?_
  refine aw_ald1 X dL_law_1510 rfl ?_
  refine aw_ald0 X dL_law_1511 rfl ?_
  refine aw_ild4 X dL_law_1512 rfl ?_
  refine aw_iconst X (1) dL_law_1514 (by decide) rfl ?_
  refine aw_iadd X dL_law_1515 rfl ?_
  refine aw_sld X SX (J + 1) dL_law_1516 rfl (nI_plus J 1) (by omega) hL ?_
  refine aw_ald0 X dL_law_1517 rfl ?_
  refine aw_ild4 X dL_law_1518 rfl ?_
  refine aw_iconst X (2) dL_law_1520 (by decide) rfl ?_
  refine aw_iadd X dL_law_1521 rfl ?_
  refine aw_sld X SX (J + 2) dL_law_1522 rfl (nI_plus J 2) (by omega) hL ?_
  refine aw_ald3 X dL_law_1523 rfl ?_
  refine aw_callSO X dL_law_1524 rfl (k_L_ofScene X.1 hN w ez ho (xs (J + 1)) (xs (J + 2))) cmhL_ofScene ml_L_167 rfl rfl (Nat.le_of_ble_eq_true rfl) ⟨Nat.le_of_ble_eq_true rfl, Nat.le_of_ble_eq_true rfl⟩ (fun f h2 g9 => f.unhide (h0_out hz0 f (by decide) ho) g9) (fun r h2 hq hf => ?_)
  obtain ⟨rfl, ⟨A2, w2⟩, g2, ho2, hg⟩ := hq
  have fr := hid_fr ho hf
  have hm2 : MoW G h2 2 mo A9 t sm σ := hm.tagK (fun a x e => fr a 2 x e (by decide) (by decide)) ((fr _ _ _ ez.1 (by decide) (by decide)).trans ez.1.symm)
  have ez2 : EZ G h2 := ⟨fr _ _ _ ez.1 (by decide) (by decide), fr _ _ _ ez.2 (by decide) (by decide)⟩
  refine aw_ist5 X dL_law_1527 rfl (by decide) rfl ?_
  refine aw_tg (tg2 := 2) hz0 (by decide) ?_
  refine aw_ald2 X dL_law_1529 rfl ?_
  refine aw_ald0 X dL_law_1530 rfl ?_
  refine aw_ild4 X dL_law_1531 rfl ?_
  refine aw_iconst X (1) dL_law_1533 (by decide) rfl ?_
  refine aw_iadd X dL_law_1534 rfl ?_
  refine aw_sld X SX (J + 1) dL_law_1535 rfl (nI_plus J 1) (by omega) hL ?_
  refine aw_ald0 X dL_law_1536 rfl ?_
  refine aw_ild4 X dL_law_1537 rfl ?_
  refine aw_iconst X (2) dL_law_1539 (by decide) rfl ?_
  refine aw_iadd X dL_law_1540 rfl ?_
  refine aw_sld X SX (J + 2) dL_law_1541 rfl (nI_plus J 2) (by omega) hL ?_
  refine aw_callV X dL_law_1542 rfl (k_X7_ofScene X.1 (by decide) hm2 hv (xs (J + 1)) (xs (J + 2))) cmX7_ofScene ml_L_169 rfl hm2.1 rfl rfl (Nat.le_of_ble_eq_true rfl) ⟨Nat.le_of_ble_eq_true rfl, Nat.le_of_ble_eq_true rfl⟩ (fun r h3 hq3 hf3 => ?_)
  obtain ⟨rfl, A3, sm3, w3⟩ := hq3
  have ho3 := hf3.1 _ _ _ ho2 (by decide)
  have w4 := w2.tagK (fun a x e => hf3.1 _ _ _ e (by decide)) ((hf3.1 _ _ _ ez2.1 (by decide)).trans ez2.1.symm)
  have ez3 := ez2.fr hf3 (by decide)
  refine aw_ist6 X dL_law_1545 rfl (by decide) rfl ?_
  refine aw_ald2 X dL_law_1547 rfl ?_
  refine aw_callV X dL_law_1548 rfl (k_X7_thrown X.1 w3) cmX7_thrown ml_L_105 rfl w3.1 rfl rfl (Nat.le_of_ble_eq_true rfl) ⟨Nat.le_of_ble_eq_true rfl, Nat.le_of_ble_eq_true rfl⟩ (aw_rs ?_)
  refine aw_tg (tg2 := 1) hz0 (by decide) ?_
  refine aw_ild5 X dL_law_1551 rfl ?_
  refine aw_icmp_eq (n2 := 1558) X dL_law_1553 rfl rfl (fun _ => ?_) (fun c9 => absurd rfl c9)
  refine aw_ild5 X dL_law_1558 rfl ?_
  refine aw_if_ne (n2 := 1575) X dL_law_1560 rfl rfl (fun c1 => ?_) (fun c1 => ?_)
  · refine aw_goto (n := 1908) X dL_law_1575 rfl ?_
    exact k h3 _ _ _ _ _ _ _ ⟨⟨A2, w4⟩, ⟨A3, _, sm3, w3⟩, ⟨g2, ho3⟩, ez3, hIV⟩ (Nat.le_of_eq hb2.symm) (Nat.le_of_eq hd2.symm)
  · have hgv := hg (nI_z hlt c1)
    refine aw_ald3 X dL_law_1563 rfl ?_
    refine aw_iconst X (0) dL_law_1564 (by decide) rfl ?_
    refine aw_lald X (0) dL_law_1565 rfl ho3 rfl (by decide) (by decide) ?_
    refine aw_ild6 X dL_law_1566 rfl ?_
    refine aw_i2l X dL_law_1568 rfl ?_
    refine aw_lcmp X dL_law_1569 rfl ?_
    refine aw_if_eq (n2 := 1575) X dL_law_1570 rfl rfl (fun _ => ?_) (fun c9 => absurd (lgc_eq hgv) c9)
    refine aw_goto (n := 1908) X dL_law_1575 rfl ?_
    exact k h3 _ _ _ _ _ _ _ ⟨⟨A2, w4⟩, ⟨A3, _, sm3, w3⟩, ⟨g2, ho3⟩, ez3, hIV⟩ (Nat.le_of_eq hb2.symm) (Nat.le_of_eq hd2.symm)
set_option maxHeartbeats 4000000 in
set_option maxRecDepth 100000 in
theorem ca_at {p : Program} {l : Launch} {e : Env} {s : State} {m : MethodId} {below : List Frame} {meth : Method} {c : Code} {Q : State → Prop} {a0 : Array Value} {G : GG} {h0 h : AH} {b L : Nat} {xs : Nat → Int32} {ke mo out J bc bs Cr Dr : Nat} {σ : NS} {y5 y6 y7 y8 : Option Value} (X : MX p l s m meth c s a0 G cL_law "KelirnightLaw" 9) (hN : NX s) (SX : va_X b L xs s s.heap ∧ b < s.heap.size) (hz0 : ∀ b t x, h0 b = some (t, x) → t = 0) (hL : L ≤ 3584) (hJ : J + 7 ≤ L) (I : LawI G ke mo out h σ) (hb : Cr + 1195 + 25 * (540 - iN σ.mi) ≤ bc) (hd : Dr + 4582 + 100 * (540 - iN σ.mi) ≤ bs) (k : ∀ (h2 : AH) (σ2 : NS) (b2 d2 : Nat) (z5 z6 z7 z8 : Option Value), LawI G ke mo out h2 σ2 → Cr + 25 * (540 - iN σ2.mi) ≤ b2 → Dr + 100 * (540 - iN σ2.mi) ≤ d2 → AW p l e room_1 s m #[.ref b] below meth c Q s G 9 1 h0 h2 b2 d2 1908 [some (.ref b), some (.ref ke), some (.ref mo), some (.ref out), some (.int (nI J)), z5, z6, z7, z8] []) : AW p l e room_1 s m #[.ref b] below meth c Q s G 9 1 h0 h bc bs 1578 [some (.ref b), some (.ref ke), some (.ref mo), some (.ref out), some (.int (nI J)), y5, y6, y7, y8] [] := by
  obtain ⟨⟨A, w⟩, ⟨A9, t, sm, hm⟩, ⟨g, ho⟩, ez, hv⟩ := I
  have hadv : iN σ.mi ≤ iN (sp_at σ (xs (J + 1))).2.2.mi := by rw [mi_at]; exact Nat.le_refl _
  have hIV : IV (sp_at σ (xs (J + 1))).2.2 := by rw [same_at]; exact hv
  have h540 := hIV.iN540
  have hlt := lt_at σ (xs (J + 1))
  obtain ⟨b2, hb2⟩ : ∃ b2, b2 = Cr + 25 * (540 - iN (sp_at σ (xs (J + 1))).2.2.mi) := ⟨_, rfl⟩
  obtain ⟨d2, hd2⟩ : ∃ d2, d2 = Dr + 100 * (540 - iN (sp_at σ (xs (J + 1))).2.2.mi) := ⟨_, rfl⟩
  refine AW.mono (bc2 := b2 + 1) (bs2 := d2 + 6) (by omega) (by omega) ?_
  refine aw_ald1 X dL_law_1578 rfl ?_
  refine aw_ald0 X dL_law_1579 rfl ?_
  refine aw_ild4 X dL_law_1580 rfl ?_
  refine aw_iconst X (1) dL_law_1582 (by decide) rfl ?_
  refine aw_iadd X dL_law_1583 rfl ?_
  refine aw_sld X SX (J + 1) dL_law_1584 rfl (nI_plus J 1) (by omega) hL ?_
  refine aw_ald3 X dL_law_1585 rfl ?_
  refine aw_callSO X dL_law_1586 rfl (k_L_at X.1 hN w ez ho (xs (J + 1))) cmhL_at ml_L_170 rfl rfl (Nat.le_of_ble_eq_true rfl) ⟨Nat.le_of_ble_eq_true rfl, Nat.le_of_ble_eq_true rfl⟩ (fun f h2 g9 => f.unhide (h0_out hz0 f (by decide) ho) g9) (fun r h2 hq hf => ?_)
  obtain ⟨rfl, ⟨A2, w2⟩, g2, ho2, hg⟩ := hq
  have fr := hid_fr ho hf
  have hm2 : MoW G h2 2 mo A9 t sm σ := hm.tagK (fun a x e => fr a 2 x e (by decide) (by decide)) ((fr _ _ _ ez.1 (by decide) (by decide)).trans ez.1.symm)
  have ez2 : EZ G h2 := ⟨fr _ _ _ ez.1 (by decide) (by decide), fr _ _ _ ez.2 (by decide) (by decide)⟩
  refine aw_ist5 X dL_law_1589 rfl (by decide) rfl ?_
  refine aw_tg (tg2 := 2) hz0 (by decide) ?_
  refine aw_ald2 X dL_law_1591 rfl ?_
  refine aw_ald0 X dL_law_1592 rfl ?_
  refine aw_ild4 X dL_law_1593 rfl ?_
  refine aw_iconst X (1) dL_law_1595 (by decide) rfl ?_
  refine aw_iadd X dL_law_1596 rfl ?_
  refine aw_sld X SX (J + 1) dL_law_1597 rfl (nI_plus J 1) (by omega) hL ?_
  refine aw_callV X dL_law_1598 rfl (k_X7_at_ X.1 (by decide) hm2 hv (xs (J + 1))) cmX7_at_ ml_L_172 rfl hm2.1 rfl rfl (Nat.le_of_ble_eq_true rfl) ⟨Nat.le_of_ble_eq_true rfl, Nat.le_of_ble_eq_true rfl⟩ (fun r h3 hq3 hf3 => ?_)
  obtain ⟨rfl, A3, sm3, w3⟩ := hq3
  have ho3 := hf3.1 _ _ _ ho2 (by decide)
  have w4 := w2.tagK (fun a x e => hf3.1 _ _ _ e (by decide)) ((hf3.1 _ _ _ ez2.1 (by decide)).trans ez2.1.symm)
  have ez3 := ez2.fr hf3 (by decide)
  refine aw_ist6 X dL_law_1601 rfl (by decide) rfl ?_
  refine aw_ald2 X dL_law_1603 rfl ?_
  refine aw_callV X dL_law_1604 rfl (k_X7_thrown X.1 w3) cmX7_thrown ml_L_105 rfl w3.1 rfl rfl (Nat.le_of_ble_eq_true rfl) ⟨Nat.le_of_ble_eq_true rfl, Nat.le_of_ble_eq_true rfl⟩ (aw_rs ?_)
  refine aw_tg (tg2 := 1) hz0 (by decide) ?_
  refine aw_ild5 X dL_law_1607 rfl ?_
  refine aw_icmp_eq (n2 := 1614) X dL_law_1609 rfl rfl (fun _ => ?_) (fun c9 => absurd rfl c9)
  refine aw_ild5 X dL_law_1614 rfl ?_
  refine aw_if_ne (n2 := 1631) X dL_law_1616 rfl rfl (fun c1 => ?_) (fun c1 => ?_)
  · refine aw_goto (n := 1908) X dL_law_1631 rfl ?_
    exact k h3 _ _ _ _ _ _ _ ⟨⟨A2, w4⟩, ⟨A3, _, sm3, w3⟩, ⟨g2, ho3⟩, ez3, hIV⟩ (Nat.le_of_eq hb2.symm) (Nat.le_of_eq hd2.symm)
  · have hgv := hg (nI_z hlt c1)
    refine aw_ald3 X dL_law_1619 rfl ?_
    refine aw_iconst X (0) dL_law_1620 (by decide) rfl ?_
    refine aw_lald X (0) dL_law_1621 rfl ho3 rfl (by decide) (by decide) ?_
    refine aw_ild6 X dL_law_1622 rfl ?_
    refine aw_i2l X dL_law_1624 rfl ?_
    refine aw_lcmp X dL_law_1625 rfl ?_
    refine aw_if_eq (n2 := 1631) X dL_law_1626 rfl rfl (fun _ => ?_) (fun c9 => absurd (lgc_eq hgv) c9)
    refine aw_goto (n := 1908) X dL_law_1631 rfl ?_
    exact k h3 _ _ _ _ _ _ _ ⟨⟨A2, w4⟩, ⟨A3, _, sm3, w3⟩, ⟨g2, ho3⟩, ez3, hIV⟩ (Nat.le_of_eq hb2.symm) (Nat.le_of_eq hd2.symm)
set_option maxHeartbeats 4000000 in
set_option maxRecDepth 100000 in
theorem ca_sound {p : Program} {l : Launch} {e : Env} {s : State} {m : MethodId} {below : List Frame} {meth : Method} {c : Code} {Q : State → Prop} {a0 : Array Value} {G : GG} {h0 h : AH} {b L : Nat} {xs : Nat → Int32} {ke mo out J bc bs Cr Dr : Nat} {σ : NS} {y5 y6 y7 y8 : Option Value} (X : MX p l s m meth c s a0 G cL_law "KelirnightLaw" 9) (hN : NX s) (SX : va_X b L xs s s.heap ∧ b < s.heap.size) (hz0 : ∀ b t x, h0 b = some (t, x) → t = 0) (hL : L ≤ 3584) (hJ : J + 7 ≤ L) (I : LawI G ke mo out h σ) (hb : Cr + 1195 + 25 * (540 - iN σ.mi) ≤ bc) (hd : Dr + 4582 + 100 * (540 - iN σ.mi) ≤ bs) (k : ∀ (h2 : AH) (σ2 : NS) (b2 d2 : Nat) (z5 z6 z7 z8 : Option Value), LawI G ke mo out h2 σ2 → Cr + 25 * (540 - iN σ2.mi) ≤ b2 → Dr + 100 * (540 - iN σ2.mi) ≤ d2 → AW p l e room_1 s m #[.ref b] below meth c Q s G 9 1 h0 h2 b2 d2 1908 [some (.ref b), some (.ref ke), some (.ref mo), some (.ref out), some (.int (nI J)), z5, z6, z7, z8] []) : AW p l e room_1 s m #[.ref b] below meth c Q s G 9 1 h0 h bc bs 1634 [some (.ref b), some (.ref ke), some (.ref mo), some (.ref out), some (.int (nI J)), y5, y6, y7, y8] [] := by
  obtain ⟨⟨A, w⟩, ⟨A9, t, sm, hm⟩, ⟨g, ho⟩, ez, hv⟩ := I
  have hadv : iN σ.mi ≤ iN (sp_sound σ (xs (J + 1))).2.2.mi := by rw [mi_sound]; exact Nat.le_refl _
  have hIV : IV (sp_sound σ (xs (J + 1))).2.2 := by rw [same_sound]; exact hv
  have h540 := hIV.iN540
  have hlt := lt_sound σ (xs (J + 1))
  obtain ⟨b2, hb2⟩ : ∃ b2, b2 = Cr + 25 * (540 - iN (sp_sound σ (xs (J + 1))).2.2.mi) := ⟨_, rfl⟩
  obtain ⟨d2, hd2⟩ : ∃ d2, d2 = Dr + 100 * (540 - iN (sp_sound σ (xs (J + 1))).2.2.mi) := ⟨_, rfl⟩
  refine AW.mono (bc2 := b2 + 1 + 1) (bs2 := d2 + 4 + 6) (by omega) (by omega) ?_
  refine aw_ald1 X dL_law_1634 rfl ?_
  refine aw_ald0 X dL_law_1635 rfl ?_
  refine aw_ild4 X dL_law_1636 rfl ?_
  refine aw_iconst X (1) dL_law_1638 (by decide) rfl ?_
  refine aw_iadd X dL_law_1639 rfl ?_
  refine aw_sld X SX (J + 1) dL_law_1640 rfl (nI_plus J 1) (by omega) hL ?_
  refine aw_ald3 X dL_law_1641 rfl ?_
  refine aw_callSO X dL_law_1642 rfl (k_L_sound X.1 hN w ez ho (xs (J + 1))) cmhL_sound ml_L_173 rfl rfl (Nat.le_of_ble_eq_true rfl) ⟨Nat.le_of_ble_eq_true rfl, Nat.le_of_ble_eq_true rfl⟩ (fun f h2 g9 => f.unhide (h0_out hz0 f (by decide) ho) g9) (fun r h2 hq hf => ?_)
  obtain ⟨rfl, ⟨A2, w2⟩, g2, ho2, hg⟩ := hq
  have fr := hid_fr ho hf
  have hm2 : MoW G h2 2 mo A9 t sm σ := hm.tagK (fun a x e => fr a 2 x e (by decide) (by decide)) ((fr _ _ _ ez.1 (by decide) (by decide)).trans ez.1.symm)
  have ez2 : EZ G h2 := ⟨fr _ _ _ ez.1 (by decide) (by decide), fr _ _ _ ez.2 (by decide) (by decide)⟩
  refine aw_ist5 X dL_law_1645 rfl (by decide) rfl ?_
  refine aw_tg (tg2 := 2) hz0 (by decide) ?_
  refine aw_ald2 X dL_law_1647 rfl ?_
  refine aw_ald0 X dL_law_1648 rfl ?_
  refine aw_ild4 X dL_law_1649 rfl ?_
  refine aw_iconst X (1) dL_law_1651 (by decide) rfl ?_
  refine aw_iadd X dL_law_1652 rfl ?_
  refine aw_sld X SX (J + 1) dL_law_1653 rfl (nI_plus J 1) (by omega) hL ?_
  refine aw_callV X dL_law_1654 rfl (k_X7_sound X.1 (by decide) hm2 (xs (J + 1))) cmX7_sound ml_L_175 rfl hm2.1 rfl rfl (Nat.le_of_ble_eq_true rfl) ⟨Nat.le_of_ble_eq_true rfl, Nat.le_of_ble_eq_true rfl⟩ (fun r h3 hq3 hf3 => ?_)
  obtain ⟨rfl, A3, sm3, w3⟩ := hq3
  have ho3 := hf3.1 _ _ _ ho2 (by decide)
  have w4 := w2.tagK (fun a x e => hf3.1 _ _ _ e (by decide)) ((hf3.1 _ _ _ ez2.1 (by decide)).trans ez2.1.symm)
  have ez3 := ez2.fr hf3 (by decide)
  refine aw_ist6 X dL_law_1657 rfl (by decide) rfl ?_
  refine aw_ald2 X dL_law_1659 rfl ?_
  refine aw_callV X dL_law_1660 rfl (k_X7_thrown X.1 w3) cmX7_thrown ml_L_105 rfl w3.1 rfl rfl (Nat.le_of_ble_eq_true rfl) ⟨Nat.le_of_ble_eq_true rfl, Nat.le_of_ble_eq_true rfl⟩ (aw_rs ?_)
  refine aw_tg (tg2 := 1) hz0 (by decide) ?_
  refine aw_ild5 X dL_law_1663 rfl ?_
  refine aw_icmp_eq (n2 := 1670) X dL_law_1665 rfl rfl (fun _ => ?_) (fun c9 => absurd rfl c9)
  refine aw_ild5 X dL_law_1670 rfl ?_
  refine aw_if_ne (n2 := 1687) X dL_law_1672 rfl rfl (fun c1 => ?_) (fun c1 => ?_)
  · refine aw_goto (n := 1908) X dL_law_1687 rfl ?_
    exact k h3 _ _ _ _ _ _ _ ⟨⟨A2, w4⟩, ⟨A3, _, sm3, w3⟩, ⟨g2, ho3⟩, ez3, hIV⟩ (Nat.le_of_eq hb2.symm) (Nat.le_of_eq hd2.symm)
  · have hgv := hg (nI_z hlt c1)
    refine aw_ald3 X dL_law_1675 rfl ?_
    refine aw_iconst X (0) dL_law_1676 (by decide) rfl ?_
    refine aw_lald X (0) dL_law_1677 rfl ho3 rfl (by decide) (by decide) ?_
    refine aw_ild6 X dL_law_1678 rfl ?_
    refine aw_i2l X dL_law_1680 rfl ?_
    refine aw_lcmp X dL_law_1681 rfl ?_
    refine aw_if_eq (n2 := 1687) X dL_law_1682 rfl rfl (fun _ => ?_) (fun c9 => absurd (lgc_eq hgv) c9)
    refine aw_goto (n := 1908) X dL_law_1687 rfl ?_
    exact k h3 _ _ _ _ _ _ _ ⟨⟨A2, w4⟩, ⟨A3, _, sm3, w3⟩, ⟨g2, ho3⟩, ez3, hIV⟩ (Nat.le_of_eq hb2.symm) (Nat.le_of_eq hd2.symm)
set_option maxHeartbeats 4000000 in
set_option maxRecDepth 100000 in
theorem ca_many {p : Program} {l : Launch} {e : Env} {s : State} {m : MethodId} {below : List Frame} {meth : Method} {c : Code} {Q : State → Prop} {a0 : Array Value} {G : GG} {h0 h : AH} {b L : Nat} {xs : Nat → Int32} {ke mo out J bc bs Cr Dr : Nat} {σ : NS} {y5 y6 y7 y8 : Option Value} (X : MX p l s m meth c s a0 G cL_law "KelirnightLaw" 9) (hN : NX s) (SX : va_X b L xs s s.heap ∧ b < s.heap.size) (hz0 : ∀ b t x, h0 b = some (t, x) → t = 0) (hL : L ≤ 3584) (hJ : J + 7 ≤ L) (I : LawI G ke mo out h σ) (hb : Cr + 1195 + 25 * (540 - iN σ.mi) ≤ bc) (hd : Dr + 4582 + 100 * (540 - iN σ.mi) ≤ bs) (k : ∀ (h2 : AH) (σ2 : NS) (b2 d2 : Nat) (z5 z6 z7 z8 : Option Value), LawI G ke mo out h2 σ2 → Cr + 25 * (540 - iN σ2.mi) ≤ b2 → Dr + 100 * (540 - iN σ2.mi) ≤ d2 → AW p l e room_1 s m #[.ref b] below meth c Q s G 9 1 h0 h2 b2 d2 1908 [some (.ref b), some (.ref ke), some (.ref mo), some (.ref out), some (.int (nI J)), z5, z6, z7, z8] []) : AW p l e room_1 s m #[.ref b] below meth c Q s G 9 1 h0 h bc bs 1690 [some (.ref b), some (.ref ke), some (.ref mo), some (.ref out), some (.int (nI J)), y5, y6, y7, y8] [] := by
  obtain ⟨⟨A, w⟩, ⟨A9, t, sm, hm⟩, ⟨g, ho⟩, ez, hv⟩ := I
  have hadv : iN σ.mi ≤ iN (sp_many σ (xs (J + 1))).2.2.mi := by rw [mi_many]; exact Nat.le_refl _
  have hIV : IV (sp_many σ (xs (J + 1))).2.2 := by rw [same_many]; exact hv
  have h540 := hIV.iN540
  have hlt := lt_many σ (xs (J + 1))
  obtain ⟨b2, hb2⟩ : ∃ b2, b2 = Cr + 25 * (540 - iN (sp_many σ (xs (J + 1))).2.2.mi) := ⟨_, rfl⟩
  obtain ⟨d2, hd2⟩ : ∃ d2, d2 = Dr + 100 * (540 - iN (sp_many σ (xs (J + 1))).2.2.mi) := ⟨_, rfl⟩
  refine AW.mono (bc2 := b2 + 15 + 1) (bs2 := d2 + 68 + 6) (by omega) (by omega) ?_
  refine aw_ald1 X dL_law_1690 rfl ?_
  refine aw_ald0 X dL_law_1691 rfl ?_
  refine aw_ild4 X dL_law_1692 rfl ?_
  refine aw_iconst X (1) dL_law_1694 (by decide) rfl ?_
  refine aw_iadd X dL_law_1695 rfl ?_
  refine aw_sld X SX (J + 1) dL_law_1696 rfl (nI_plus J 1) (by omega) hL ?_
  refine aw_ald3 X dL_law_1697 rfl ?_
  refine aw_callSO X dL_law_1698 rfl (k_L_many X.1 hN w ez ho (xs (J + 1))) cmhL_many ml_L_176 rfl rfl (Nat.le_of_ble_eq_true rfl) ⟨Nat.le_of_ble_eq_true rfl, Nat.le_of_ble_eq_true rfl⟩ (fun f h2 g9 => f.unhide (h0_out hz0 f (by decide) ho) g9) (fun r h2 hq hf => ?_)
  obtain ⟨rfl, ⟨A2, w2⟩, g2, ho2, hg⟩ := hq
  have fr := hid_fr ho hf
  have hm2 : MoW G h2 2 mo A9 t sm σ := hm.tagK (fun a x e => fr a 2 x e (by decide) (by decide)) ((fr _ _ _ ez.1 (by decide) (by decide)).trans ez.1.symm)
  have ez2 : EZ G h2 := ⟨fr _ _ _ ez.1 (by decide) (by decide), fr _ _ _ ez.2 (by decide) (by decide)⟩
  refine aw_ist5 X dL_law_1701 rfl (by decide) rfl ?_
  refine aw_tg (tg2 := 2) hz0 (by decide) ?_
  refine aw_ald2 X dL_law_1703 rfl ?_
  refine aw_ald0 X dL_law_1704 rfl ?_
  refine aw_ild4 X dL_law_1705 rfl ?_
  refine aw_iconst X (1) dL_law_1707 (by decide) rfl ?_
  refine aw_iadd X dL_law_1708 rfl ?_
  refine aw_sld X SX (J + 1) dL_law_1709 rfl (nI_plus J 1) (by omega) hL ?_
  refine aw_callV X dL_law_1710 rfl (k_X7_many X.1 (by decide) hm2 hv (xs (J + 1))) cmX7_many ml_L_178 rfl hm2.1 rfl rfl (Nat.le_of_ble_eq_true rfl) ⟨Nat.le_of_ble_eq_true rfl, Nat.le_of_ble_eq_true rfl⟩ (fun r h3 hq3 hf3 => ?_)
  obtain ⟨rfl, A3, sm3, w3⟩ := hq3
  have ho3 := hf3.1 _ _ _ ho2 (by decide)
  have w4 := w2.tagK (fun a x e => hf3.1 _ _ _ e (by decide)) ((hf3.1 _ _ _ ez2.1 (by decide)).trans ez2.1.symm)
  have ez3 := ez2.fr hf3 (by decide)
  refine aw_ist6 X dL_law_1713 rfl (by decide) rfl ?_
  refine aw_ald2 X dL_law_1715 rfl ?_
  refine aw_callV X dL_law_1716 rfl (k_X7_thrown X.1 w3) cmX7_thrown ml_L_105 rfl w3.1 rfl rfl (Nat.le_of_ble_eq_true rfl) ⟨Nat.le_of_ble_eq_true rfl, Nat.le_of_ble_eq_true rfl⟩ (aw_rs ?_)
  refine aw_tg (tg2 := 1) hz0 (by decide) ?_
  refine aw_ild5 X dL_law_1719 rfl ?_
  refine aw_icmp_eq (n2 := 1726) X dL_law_1721 rfl rfl (fun _ => ?_) (fun c9 => absurd rfl c9)
  refine aw_ild5 X dL_law_1726 rfl ?_
  refine aw_if_ne (n2 := 1743) X dL_law_1728 rfl rfl (fun c1 => ?_) (fun c1 => ?_)
  · refine aw_goto (n := 1908) X dL_law_1743 rfl ?_
    exact k h3 _ _ _ _ _ _ _ ⟨⟨A2, w4⟩, ⟨A3, _, sm3, w3⟩, ⟨g2, ho3⟩, ez3, hIV⟩ (Nat.le_of_eq hb2.symm) (Nat.le_of_eq hd2.symm)
  · have hgv := hg (nI_z hlt c1)
    refine aw_ald3 X dL_law_1731 rfl ?_
    refine aw_iconst X (0) dL_law_1732 (by decide) rfl ?_
    refine aw_lald X (0) dL_law_1733 rfl ho3 rfl (by decide) (by decide) ?_
    refine aw_ild6 X dL_law_1734 rfl ?_
    refine aw_i2l X dL_law_1736 rfl ?_
    refine aw_lcmp X dL_law_1737 rfl ?_
    refine aw_if_eq (n2 := 1743) X dL_law_1738 rfl rfl (fun _ => ?_) (fun c9 => absurd (lgc_eq hgv) c9)
    refine aw_goto (n := 1908) X dL_law_1743 rfl ?_
    exact k h3 _ _ _ _ _ _ _ ⟨⟨A2, w4⟩, ⟨A3, _, sm3, w3⟩, ⟨g2, ho3⟩, ez3, hIV⟩ (Nat.le_of_eq hb2.symm) (Nat.le_of_eq hd2.symm)
set_option maxHeartbeats 4000000 in
set_option maxRecDepth 100000 in
theorem ca_meanShadow {p : Program} {l : Launch} {e : Env} {s : State} {m : MethodId} {below : List Frame} {meth : Method} {c : Code} {Q : State → Prop} {a0 : Array Value} {G : GG} {h0 h : AH} {b L : Nat} {xs : Nat → Int32} {ke mo out J bc bs Cr Dr : Nat} {σ : NS} {y5 y6 y7 y8 : Option Value} (X : MX p l s m meth c s a0 G cL_law "KelirnightLaw" 9) (hN : NX s) (SX : va_X b L xs s s.heap ∧ b < s.heap.size) (hz0 : ∀ b t x, h0 b = some (t, x) → t = 0) (hL : L ≤ 3584) (hJ : J + 7 ≤ L) (I : LawI G ke mo out h σ) (hb : Cr + 1195 + 25 * (540 - iN σ.mi) ≤ bc) (hd : Dr + 4582 + 100 * (540 - iN σ.mi) ≤ bs) (k : ∀ (h2 : AH) (σ2 : NS) (b2 d2 : Nat) (z5 z6 z7 z8 : Option Value), LawI G ke mo out h2 σ2 → Cr + 25 * (540 - iN σ2.mi) ≤ b2 → Dr + 100 * (540 - iN σ2.mi) ≤ d2 → AW p l e room_1 s m #[.ref b] below meth c Q s G 9 1 h0 h2 b2 d2 1908 [some (.ref b), some (.ref ke), some (.ref mo), some (.ref out), some (.int (nI J)), z5, z6, z7, z8] []) : AW p l e room_1 s m #[.ref b] below meth c Q s G 9 1 h0 h bc bs 1746 [some (.ref b), some (.ref ke), some (.ref mo), some (.ref out), some (.int (nI J)), y5, y6, y7, y8] [] := by
  obtain ⟨⟨A, w⟩, ⟨A9, t, sm, hm⟩, ⟨g, ho⟩, ez, hv⟩ := I
  have h540 := hv.iN540
  obtain ⟨b2, hb2⟩ : ∃ b2, b2 = Cr + 25 * (540 - iN σ.mi) := ⟨_, rfl⟩
  obtain ⟨d2, hd2⟩ : ∃ d2, d2 = Dr + 100 * (540 - iN σ.mi) := ⟨_, rfl⟩
  obtain ⟨b3, hb3⟩ : ∃ b3, b3 = b2 + 3 := ⟨_, rfl⟩
  obtain ⟨d3, hd3⟩ : ∃ d3, d3 = d2 + 12 := ⟨_, rfl⟩
  refine AW.mono (bc2 := b3) (bs2 := d3) (by omega) (by omega) ?_
  refine aw_ald1 X dL_law_1746 rfl ?_
  refine aw_callV X dL_law_1747 rfl (k_X6_meanShadow X.1 w (fun q => dd_ok q)) cmX6_meanShadow ml_L_179 rfl w.1 rfl rfl (Nat.le_of_ble_eq_true rfl) ⟨Nat.le_of_ble_eq_true rfl, Nat.le_of_ble_eq_true rfl⟩ (aw_rs ?_)
  have w2 := w
  have ho2 := ho
  have ez2 := ez
  have hm2 := hm
  refine aw_dst5 X dL_law_1750 rfl (by decide) rfl ?_
  refine aw_tg (tg2 := 2) hz0 (by decide) ?_
  refine aw_ald2 X dL_law_1752 rfl ?_
  refine AW.mono (bc2 := b2 + 3) (bs2 := d2 + 12) (Nat.le_of_eq hb3.symm) (Nat.le_of_eq hd3.symm) ?_
  refine aw_callV X dL_law_1753 rfl (k_X7_meanShadow X.1 (by decide) hm2 hv) cmX7_meanShadow ml_L_183 rfl hm2.1 rfl rfl (Nat.le_of_ble_eq_true rfl) ⟨Nat.le_of_ble_eq_true rfl, Nat.le_of_ble_eq_true rfl⟩ (fun r h3 hq3 hf3 => ?_)
  obtain ⟨rfl, w3⟩ := hq3
  have ho3 := hf3.1 _ _ _ ho2 (by decide)
  have w4 := w2.tagK (fun a x e => hf3.1 _ _ _ e (by decide)) ((hf3.1 _ _ _ ez2.1 (by decide)).trans ez2.1.symm)
  have ez3 := ez2.fr hf3 (by decide)
  refine aw_tg (tg2 := 1) hz0 (by decide) ?_
  refine aw_dst7 X dL_law_1756 rfl (by decide) rfl ?_
  refine aw_dld5 X dL_law_1758 rfl ?_
  refine aw_dld7 X dL_law_1760 rfl ?_
  refine aw_dcmp X dL_law_1762 rfl ?_
  refine aw_if_eq (n2 := 1784) X dL_law_1763 rfl rfl (fun c1 => ?_) (fun c1 => ?_)
  · refine aw_goto (n := 1908) X dL_law_1784 rfl ?_
    exact k h3 _ _ _ _ _ _ _ ⟨⟨_, w4⟩, ⟨_, _, _, w3⟩, ⟨g, ho3⟩, ez3, hv⟩ (Nat.le_of_eq hb2.symm) (Nat.le_of_eq hd2.symm)
  · refine aw_dld5 X dL_law_1766 rfl ?_
    refine aw_dld5 X dL_law_1768 rfl ?_
    refine aw_dcmp X dL_law_1770 rfl ?_
    refine aw_if_eq (n2 := 1782) X dL_law_1771 rfl rfl (fun c2 => absurd c2 c1) (fun _ => ?_)
    refine aw_dld7 X dL_law_1774 rfl ?_
    refine aw_dld7 X dL_law_1776 rfl ?_
    refine aw_dcmp X dL_law_1778 rfl ?_
    refine aw_if_ne (n2 := 1784) X dL_law_1779 rfl rfl (fun _ => ?_) (fun c2 => absurd c2 c1)
    refine aw_goto (n := 1908) X dL_law_1784 rfl ?_
    exact k h3 _ _ _ _ _ _ _ ⟨⟨_, w4⟩, ⟨_, _, _, w3⟩, ⟨g, ho3⟩, ez3, hv⟩ (Nat.le_of_eq hb2.symm) (Nat.le_of_eq hd2.symm)
set_option maxHeartbeats 4000000 in
set_option maxRecDepth 100000 in
theorem ca_nextGong {p : Program} {l : Launch} {e : Env} {s : State} {m : MethodId} {below : List Frame} {meth : Method} {c : Code} {Q : State → Prop} {a0 : Array Value} {G : GG} {h0 h : AH} {b L : Nat} {xs : Nat → Int32} {ke mo out J bc bs Cr Dr : Nat} {σ : NS} {y5 y6 y7 y8 : Option Value} (X : MX p l s m meth c s a0 G cL_law "KelirnightLaw" 9) (hN : NX s) (SX : va_X b L xs s s.heap ∧ b < s.heap.size) (hz0 : ∀ b t x, h0 b = some (t, x) → t = 0) (hL : L ≤ 3584) (hJ : J + 7 ≤ L) (I : LawI G ke mo out h σ) (hb : Cr + 1195 + 25 * (540 - iN σ.mi) ≤ bc) (hd : Dr + 4582 + 100 * (540 - iN σ.mi) ≤ bs) (k : ∀ (h2 : AH) (σ2 : NS) (b2 d2 : Nat) (z5 z6 z7 z8 : Option Value), LawI G ke mo out h2 σ2 → Cr + 25 * (540 - iN σ2.mi) ≤ b2 → Dr + 100 * (540 - iN σ2.mi) ≤ d2 → AW p l e room_1 s m #[.ref b] below meth c Q s G 9 1 h0 h2 b2 d2 1908 [some (.ref b), some (.ref ke), some (.ref mo), some (.ref out), some (.int (nI J)), z5, z6, z7, z8] []) : AW p l e room_1 s m #[.ref b] below meth c Q s G 9 1 h0 h bc bs 1787 [some (.ref b), some (.ref ke), some (.ref mo), some (.ref out), some (.int (nI J)), y5, y6, y7, y8] [] := by
  obtain ⟨⟨A, w⟩, ⟨A9, t, sm, hm⟩, ⟨g, ho⟩, ez, hv⟩ := I
  have h540 := hv.iN540
  obtain ⟨b2, hb2⟩ : ∃ b2, b2 = Cr + 25 * (540 - iN σ.mi) := ⟨_, rfl⟩
  obtain ⟨d2, hd2⟩ : ∃ d2, d2 = Dr + 100 * (540 - iN σ.mi) := ⟨_, rfl⟩
  obtain ⟨b3, hb3⟩ : ∃ b3, b3 = b2 + 1 := ⟨_, rfl⟩
  obtain ⟨d3, hd3⟩ : ∃ d3, d3 = d2 + 4 := ⟨_, rfl⟩
  refine AW.mono (bc2 := b3) (bs2 := d3) (by omega) (by omega) ?_
  refine aw_ald1 X dL_law_1787 rfl ?_
  refine aw_callV X dL_law_1788 rfl (k_X6_nextGong X.1 w) cmX6_nextGong ml_L_184 rfl w.1 rfl rfl (Nat.le_of_ble_eq_true rfl) ⟨Nat.le_of_ble_eq_true rfl, Nat.le_of_ble_eq_true rfl⟩ (aw_rs ?_)
  have w2 := w
  have ho2 := ho
  have ez2 := ez
  have hm2 := hm
  refine aw_tg (tg2 := 2) hz0 (by decide) ?_
  refine aw_ald2 X dL_law_1791 rfl ?_
  refine AW.mono (bc2 := b2 + 1) (bs2 := d2 + 4) (Nat.le_of_eq hb3.symm) (Nat.le_of_eq hd3.symm) ?_
  refine aw_callV X dL_law_1792 rfl (k_X7_nextGong X.1 (by decide) hm2 hv) cmX7_nextGong ml_L_187 rfl hm2.1 rfl rfl (Nat.le_of_ble_eq_true rfl) ⟨Nat.le_of_ble_eq_true rfl, Nat.le_of_ble_eq_true rfl⟩ (fun r h3 hq3 hf3 => ?_)
  obtain ⟨rfl, w3⟩ := hq3
  have ho3 := hf3.1 _ _ _ ho2 (by decide)
  have w4 := w2.tagK (fun a x e => hf3.1 _ _ _ e (by decide)) ((hf3.1 _ _ _ ez2.1 (by decide)).trans ez2.1.symm)
  have ez3 := ez2.fr hf3 (by decide)
  refine aw_tg (tg2 := 1) hz0 (by decide) ?_
  refine aw_icmp_eq (n2 := 1908) X dL_law_1795 rfl rfl (fun _ => ?_) (fun c9 => absurd rfl c9)
  exact k h3 _ _ _ _ _ _ _ ⟨⟨_, w4⟩, ⟨_, _, _, w3⟩, ⟨g, ho3⟩, ez3, hv⟩ (Nat.le_of_eq hb2.symm) (Nat.le_of_eq hd2.symm)
set_option maxHeartbeats 4000000 in
set_option maxRecDepth 100000 in
theorem ca_bestSwap {p : Program} {l : Launch} {e : Env} {s : State} {m : MethodId} {below : List Frame} {meth : Method} {c : Code} {Q : State → Prop} {a0 : Array Value} {G : GG} {h0 h : AH} {b L : Nat} {xs : Nat → Int32} {ke mo out J bc bs Cr Dr : Nat} {σ : NS} {y5 y6 y7 y8 : Option Value} (X : MX p l s m meth c s a0 G cL_law "KelirnightLaw" 9) (hN : NX s) (SX : va_X b L xs s s.heap ∧ b < s.heap.size) (hz0 : ∀ b t x, h0 b = some (t, x) → t = 0) (hL : L ≤ 3584) (hJ : J + 7 ≤ L) (I : LawI G ke mo out h σ) (hb : Cr + 1195 + 25 * (540 - iN σ.mi) ≤ bc) (hd : Dr + 4582 + 100 * (540 - iN σ.mi) ≤ bs) (k : ∀ (h2 : AH) (σ2 : NS) (b2 d2 : Nat) (z5 z6 z7 z8 : Option Value), LawI G ke mo out h2 σ2 → Cr + 25 * (540 - iN σ2.mi) ≤ b2 → Dr + 100 * (540 - iN σ2.mi) ≤ d2 → AW p l e room_1 s m #[.ref b] below meth c Q s G 9 1 h0 h2 b2 d2 1908 [some (.ref b), some (.ref ke), some (.ref mo), some (.ref out), some (.int (nI J)), z5, z6, z7, z8] []) : AW p l e room_1 s m #[.ref b] below meth c Q s G 9 1 h0 h bc bs 1800 [some (.ref b), some (.ref ke), some (.ref mo), some (.ref out), some (.int (nI J)), y5, y6, y7, y8] [] := by
  obtain ⟨⟨A, w⟩, ⟨A9, t, sm, hm⟩, ⟨g, ho⟩, ez, hv⟩ := I
  have h540 := hv.iN540
  obtain ⟨b2, hb2⟩ : ∃ b2, b2 = Cr + 25 * (540 - iN σ.mi) := ⟨_, rfl⟩
  obtain ⟨d2, hd2⟩ : ∃ d2, d2 = Dr + 100 * (540 - iN σ.mi) := ⟨_, rfl⟩
  obtain ⟨b3, hb3⟩ : ∃ b3, b3 = b2 + 508 := ⟨_, rfl⟩
  obtain ⟨d3, hd3⟩ : ∃ d3, d3 = d2 + 1858 := ⟨_, rfl⟩
  refine AW.mono (bc2 := b3) (bs2 := d3) (by omega) (by omega) ?_
  refine aw_ald1 X dL_law_1800 rfl ?_
  refine aw_callV X dL_law_1801 rfl (k_X6_bestSwap X.1 (by decide) w) cmX6_bestSwap ml_L_188 rfl w.1 rfl rfl (Nat.le_of_ble_eq_true rfl) ⟨Nat.le_of_ble_eq_true rfl, Nat.le_of_ble_eq_true rfl⟩ (fun r h2 hq hf => ?_)
  obtain ⟨rfl, A2, w2⟩ := hq
  have ho2 := hf.1 _ _ _ ho (by decide)
  have ez2 := ez.fr hf (by decide)
  have hm2 := hm.tagK (fun a x e => hf.1 _ _ _ e (by decide)) ((hf.1 _ _ _ ez.1 (by decide)).trans ez.1.symm)
  refine aw_tg (tg2 := 2) hz0 (by decide) ?_
  refine aw_ald2 X dL_law_1804 rfl ?_
  refine AW.mono (bc2 := b2 + 508) (bs2 := d2 + 1858) (Nat.le_of_eq hb3.symm) (Nat.le_of_eq hd3.symm) ?_
  refine aw_callV X dL_law_1805 rfl (k_X7_bestSwap X.1 (by decide) hm2 hv ez2.2) cmX7_bestSwap ml_L_191 rfl hm2.1 rfl rfl (Nat.le_of_ble_eq_true rfl) ⟨Nat.le_of_ble_eq_true rfl, Nat.le_of_ble_eq_true rfl⟩ (fun r h3 hq3 hf3 => ?_)
  obtain ⟨rfl, w3⟩ := hq3
  have ho3 := hf3.1 _ _ _ ho2 (by decide)
  have w4 := w2.tagK (fun a x e => hf3.1 _ _ _ e (by decide)) ((hf3.1 _ _ _ ez2.1 (by decide)).trans ez2.1.symm)
  have ez3 := ez2.fr hf3 (by decide)
  refine aw_tg (tg2 := 1) hz0 (by decide) ?_
  refine aw_icmp_eq (n2 := 1908) X dL_law_1808 rfl rfl (fun _ => ?_) (fun c9 => absurd rfl c9)
  exact k h3 _ _ _ _ _ _ _ ⟨⟨_, w4⟩, ⟨_, _, _, w3⟩, ⟨g, ho3⟩, ez3, hv⟩ (Nat.le_of_eq hb2.symm) (Nat.le_of_eq hd2.symm)
set_option maxHeartbeats 4000000 in
set_option maxRecDepth 100000 in
theorem ca_liftFor {p : Program} {l : Launch} {e : Env} {s : State} {m : MethodId} {below : List Frame} {meth : Method} {c : Code} {Q : State → Prop} {a0 : Array Value} {G : GG} {h0 h : AH} {b L : Nat} {xs : Nat → Int32} {ke mo out J bc bs Cr Dr : Nat} {σ : NS} {y5 y6 y7 y8 : Option Value} (X : MX p l s m meth c s a0 G cL_law "KelirnightLaw" 9) (hN : NX s) (SX : va_X b L xs s s.heap ∧ b < s.heap.size) (hz0 : ∀ b t x, h0 b = some (t, x) → t = 0) (hL : L ≤ 3584) (hJ : J + 7 ≤ L) (I : LawI G ke mo out h σ) (hb : Cr + 1195 + 25 * (540 - iN σ.mi) ≤ bc) (hd : Dr + 4582 + 100 * (540 - iN σ.mi) ≤ bs) (k : ∀ (h2 : AH) (σ2 : NS) (b2 d2 : Nat) (z5 z6 z7 z8 : Option Value), LawI G ke mo out h2 σ2 → Cr + 25 * (540 - iN σ2.mi) ≤ b2 → Dr + 100 * (540 - iN σ2.mi) ≤ d2 → AW p l e room_1 s m #[.ref b] below meth c Q s G 9 1 h0 h2 b2 d2 1908 [some (.ref b), some (.ref ke), some (.ref mo), some (.ref out), some (.int (nI J)), z5, z6, z7, z8] []) : AW p l e room_1 s m #[.ref b] below meth c Q s G 9 1 h0 h bc bs 1813 [some (.ref b), some (.ref ke), some (.ref mo), some (.ref out), some (.int (nI J)), y5, y6, y7, y8] [] := by
  obtain ⟨⟨A, w⟩, ⟨A9, t, sm, hm⟩, ⟨g, ho⟩, ez, hv⟩ := I
  have hadv : iN σ.mi ≤ iN (sp_liftFor σ (xs (J + 1)) (xs (J + 2))).2.2.mi := by rw [mi_liftFor]; exact Nat.le_refl _
  have hIV : IV (sp_liftFor σ (xs (J + 1)) (xs (J + 2))).2.2 := by rw [same_liftFor]; exact hv
  have h540 := hIV.iN540
  have hlt := lt_liftFor σ (xs (J + 1)) (xs (J + 2))
  obtain ⟨b2, hb2⟩ : ∃ b2, b2 = Cr + 25 * (540 - iN (sp_liftFor σ (xs (J + 1)) (xs (J + 2))).2.2.mi) := ⟨_, rfl⟩
  obtain ⟨d2, hd2⟩ : ∃ d2, d2 = Dr + 100 * (540 - iN (sp_liftFor σ (xs (J + 1)) (xs (J + 2))).2.2.mi) := ⟨_, rfl⟩
  refine AW.mono (bc2 := b2 + 1) (bs2 := d2 + 6) (by omega) (by omega) ?_
  refine aw_ald1 X dL_law_1813 rfl ?_
  refine aw_ald0 X dL_law_1814 rfl ?_
  refine aw_ild4 X dL_law_1815 rfl ?_
  refine aw_iconst X (1) dL_law_1817 (by decide) rfl ?_
  refine aw_iadd X dL_law_1818 rfl ?_
  refine aw_sld X SX (J + 1) dL_law_1819 rfl (nI_plus J 1) (by omega) hL ?_
  refine aw_ald0 X dL_law_1820 rfl ?_
  refine aw_ild4 X dL_law_1821 rfl ?_
  refine aw_iconst X (2) dL_law_1823 (by decide) rfl ?_
  refine aw_iadd X dL_law_1824 rfl ?_
  refine aw_sld X SX (J + 2) dL_law_1825 rfl (nI_plus J 2) (by omega) hL ?_
  refine aw_ald3 X dL_law_1826 rfl ?_
  refine aw_callSO X dL_law_1827 rfl (k_L_liftFor X.1 hN w ez ho (xs (J + 1)) (xs (J + 2))) cmhL_liftFor ml_L_192 rfl rfl (Nat.le_of_ble_eq_true rfl) ⟨Nat.le_of_ble_eq_true rfl, Nat.le_of_ble_eq_true rfl⟩ (fun f h2 g9 => f.unhide (h0_out hz0 f (by decide) ho) g9) (fun r h2 hq hf => ?_)
  obtain ⟨rfl, ⟨A2, w2⟩, g2, ho2, hg⟩ := hq
  have fr := hid_fr ho hf
  have hm2 : MoW G h2 2 mo A9 t sm σ := hm.tagK (fun a x e => fr a 2 x e (by decide) (by decide)) ((fr _ _ _ ez.1 (by decide) (by decide)).trans ez.1.symm)
  have ez2 : EZ G h2 := ⟨fr _ _ _ ez.1 (by decide) (by decide), fr _ _ _ ez.2 (by decide) (by decide)⟩
  refine aw_ist5 X dL_law_1830 rfl (by decide) rfl ?_
  refine aw_tg (tg2 := 2) hz0 (by decide) ?_
  refine aw_ald2 X dL_law_1832 rfl ?_
  refine aw_ald0 X dL_law_1833 rfl ?_
  refine aw_ild4 X dL_law_1834 rfl ?_
  refine aw_iconst X (1) dL_law_1836 (by decide) rfl ?_
  refine aw_iadd X dL_law_1837 rfl ?_
  refine aw_sld X SX (J + 1) dL_law_1838 rfl (nI_plus J 1) (by omega) hL ?_
  refine aw_ald0 X dL_law_1839 rfl ?_
  refine aw_ild4 X dL_law_1840 rfl ?_
  refine aw_iconst X (2) dL_law_1842 (by decide) rfl ?_
  refine aw_iadd X dL_law_1843 rfl ?_
  refine aw_sld X SX (J + 2) dL_law_1844 rfl (nI_plus J 2) (by omega) hL ?_
  refine aw_callV X dL_law_1845 rfl (k_X7_liftFor X.1 (by decide) hm2 hv (xs (J + 1)) (xs (J + 2))) cmX7_liftFor ml_L_194 rfl hm2.1 rfl rfl (Nat.le_of_ble_eq_true rfl) ⟨Nat.le_of_ble_eq_true rfl, Nat.le_of_ble_eq_true rfl⟩ (fun r h3 hq3 hf3 => ?_)
  obtain ⟨rfl, A3, sm3, w3⟩ := hq3
  have ho3 := hf3.1 _ _ _ ho2 (by decide)
  have w4 := w2.tagK (fun a x e => hf3.1 _ _ _ e (by decide)) ((hf3.1 _ _ _ ez2.1 (by decide)).trans ez2.1.symm)
  have ez3 := ez2.fr hf3 (by decide)
  refine aw_ist6 X dL_law_1848 rfl (by decide) rfl ?_
  refine aw_ald2 X dL_law_1850 rfl ?_
  refine aw_callV X dL_law_1851 rfl (k_X7_thrown X.1 w3) cmX7_thrown ml_L_105 rfl w3.1 rfl rfl (Nat.le_of_ble_eq_true rfl) ⟨Nat.le_of_ble_eq_true rfl, Nat.le_of_ble_eq_true rfl⟩ (aw_rs ?_)
  refine aw_tg (tg2 := 1) hz0 (by decide) ?_
  refine aw_ild5 X dL_law_1854 rfl ?_
  refine aw_icmp_eq (n2 := 1861) X dL_law_1856 rfl rfl (fun _ => ?_) (fun c9 => absurd rfl c9)
  refine aw_ild5 X dL_law_1861 rfl ?_
  refine aw_if_ne (n2 := 1878) X dL_law_1863 rfl rfl (fun c1 => ?_) (fun c1 => ?_)
  · refine aw_goto (n := 1908) X dL_law_1878 rfl ?_
    exact k h3 _ _ _ _ _ _ _ ⟨⟨A2, w4⟩, ⟨A3, _, sm3, w3⟩, ⟨g2, ho3⟩, ez3, hIV⟩ (Nat.le_of_eq hb2.symm) (Nat.le_of_eq hd2.symm)
  · have hgv := hg (nI_z hlt c1)
    refine aw_ald3 X dL_law_1866 rfl ?_
    refine aw_iconst X (0) dL_law_1867 (by decide) rfl ?_
    refine aw_lald X (0) dL_law_1868 rfl ho3 rfl (by decide) (by decide) ?_
    refine aw_ild6 X dL_law_1869 rfl ?_
    refine aw_i2l X dL_law_1871 rfl ?_
    refine aw_lcmp X dL_law_1872 rfl ?_
    refine aw_if_eq (n2 := 1878) X dL_law_1873 rfl rfl (fun _ => ?_) (fun c9 => absurd (lgc_eq hgv) c9)
    refine aw_goto (n := 1908) X dL_law_1878 rfl ?_
    exact k h3 _ _ _ _ _ _ _ ⟨⟨A2, w4⟩, ⟨A3, _, sm3, w3⟩, ⟨g2, ho3⟩, ez3, hIV⟩ (Nat.le_of_eq hb2.symm) (Nat.le_of_eq hd2.symm)
set_option maxHeartbeats 4000000 in
set_option maxRecDepth 100000 in
theorem ca_gripable {p : Program} {l : Launch} {e : Env} {s : State} {m : MethodId} {below : List Frame} {meth : Method} {c : Code} {Q : State → Prop} {a0 : Array Value} {G : GG} {h0 h : AH} {b L : Nat} {xs : Nat → Int32} {ke mo out J bc bs Cr Dr : Nat} {σ : NS} {y5 y6 y7 y8 : Option Value} (X : MX p l s m meth c s a0 G cL_law "KelirnightLaw" 9) (hN : NX s) (SX : va_X b L xs s s.heap ∧ b < s.heap.size) (hz0 : ∀ b t x, h0 b = some (t, x) → t = 0) (hL : L ≤ 3584) (hJ : J + 7 ≤ L) (I : LawI G ke mo out h σ) (hb : Cr + 1195 + 25 * (540 - iN σ.mi) ≤ bc) (hd : Dr + 4582 + 100 * (540 - iN σ.mi) ≤ bs) (k : ∀ (h2 : AH) (σ2 : NS) (b2 d2 : Nat) (z5 z6 z7 z8 : Option Value), LawI G ke mo out h2 σ2 → Cr + 25 * (540 - iN σ2.mi) ≤ b2 → Dr + 100 * (540 - iN σ2.mi) ≤ d2 → AW p l e room_1 s m #[.ref b] below meth c Q s G 9 1 h0 h2 b2 d2 1908 [some (.ref b), some (.ref ke), some (.ref mo), some (.ref out), some (.int (nI J)), z5, z6, z7, z8] []) : AW p l e room_1 s m #[.ref b] below meth c Q s G 9 1 h0 h bc bs 1881 [some (.ref b), some (.ref ke), some (.ref mo), some (.ref out), some (.int (nI J)), y5, y6, y7, y8] [] := by
  obtain ⟨⟨A, w⟩, ⟨A9, t, sm, hm⟩, ⟨g, ho⟩, ez, hv⟩ := I
  have h540 := hv.iN540
  obtain ⟨b2, hb2⟩ : ∃ b2, b2 = Cr + 25 * (540 - iN σ.mi) := ⟨_, rfl⟩
  obtain ⟨d2, hd2⟩ : ∃ d2, d2 = Dr + 100 * (540 - iN σ.mi) := ⟨_, rfl⟩
  obtain ⟨b3, hb3⟩ : ∃ b3, b3 = b2 + 24 := ⟨_, rfl⟩
  obtain ⟨d3, hd3⟩ : ∃ d3, d3 = d2 + 96 := ⟨_, rfl⟩
  refine AW.mono (bc2 := b3) (bs2 := d3) (by omega) (by omega) ?_
  refine aw_ald1 X dL_law_1881 rfl ?_
  refine aw_callV X dL_law_1882 rfl (k_X6_gripable X.1 w) cmX6_gripable ml_L_195 rfl w.1 rfl rfl (Nat.le_of_ble_eq_true rfl) ⟨Nat.le_of_ble_eq_true rfl, Nat.le_of_ble_eq_true rfl⟩ (aw_rs ?_)
  have w2 := w
  have ho2 := ho
  have ez2 := ez
  have hm2 := hm
  refine aw_tg (tg2 := 2) hz0 (by decide) ?_
  refine aw_ald2 X dL_law_1885 rfl ?_
  refine AW.mono (bc2 := b2 + 24) (bs2 := d2 + 96) (Nat.le_of_eq hb3.symm) (Nat.le_of_eq hd3.symm) ?_
  refine aw_callV X dL_law_1886 rfl (k_X7_gripable X.1 (by decide) hm2 hv) cmX7_gripable ml_L_198 rfl hm2.1 rfl rfl (Nat.le_of_ble_eq_true rfl) ⟨Nat.le_of_ble_eq_true rfl, Nat.le_of_ble_eq_true rfl⟩ (fun r h3 hq3 hf3 => ?_)
  obtain ⟨rfl, w3⟩ := hq3
  have ho3 := hf3.1 _ _ _ ho2 (by decide)
  have w4 := w2.tagK (fun a x e => hf3.1 _ _ _ e (by decide)) ((hf3.1 _ _ _ ez2.1 (by decide)).trans ez2.1.symm)
  have ez3 := ez2.fr hf3 (by decide)
  refine aw_tg (tg2 := 1) hz0 (by decide) ?_
  refine aw_icmp_eq (n2 := 1908) X dL_law_1889 rfl rfl (fun _ => ?_) (fun c9 => absurd rfl c9)
  exact k h3 _ _ _ _ _ _ _ ⟨⟨_, w4⟩, ⟨_, _, _, w3⟩, ⟨g, ho3⟩, ez3, hv⟩ (Nat.le_of_eq hb2.symm) (Nat.le_of_eq hd2.symm)
set_option maxHeartbeats 4000000 in
set_option maxRecDepth 100000 in
theorem ca_digest {p : Program} {l : Launch} {e : Env} {s : State} {m : MethodId} {below : List Frame} {meth : Method} {c : Code} {Q : State → Prop} {a0 : Array Value} {G : GG} {h0 h : AH} {b L : Nat} {xs : Nat → Int32} {ke mo out J bc bs Cr Dr : Nat} {σ : NS} {y5 y6 y7 y8 : Option Value} (X : MX p l s m meth c s a0 G cL_law "KelirnightLaw" 9) (hN : NX s) (SX : va_X b L xs s s.heap ∧ b < s.heap.size) (hz0 : ∀ b t x, h0 b = some (t, x) → t = 0) (hL : L ≤ 3584) (hJ : J + 7 ≤ L) (I : LawI G ke mo out h σ) (hb : Cr + 1195 + 25 * (540 - iN σ.mi) ≤ bc) (hd : Dr + 4582 + 100 * (540 - iN σ.mi) ≤ bs) (k : ∀ (h2 : AH) (σ2 : NS) (b2 d2 : Nat) (z5 z6 z7 z8 : Option Value), LawI G ke mo out h2 σ2 → Cr + 25 * (540 - iN σ2.mi) ≤ b2 → Dr + 100 * (540 - iN σ2.mi) ≤ d2 → AW p l e room_1 s m #[.ref b] below meth c Q s G 9 1 h0 h2 b2 d2 1908 [some (.ref b), some (.ref ke), some (.ref mo), some (.ref out), some (.int (nI J)), z5, z6, z7, z8] []) : AW p l e room_1 s m #[.ref b] below meth c Q s G 9 1 h0 h bc bs 1894 [some (.ref b), some (.ref ke), some (.ref mo), some (.ref out), some (.int (nI J)), y5, y6, y7, y8] [] := by
  obtain ⟨⟨A, w⟩, ⟨A9, t, sm, hm⟩, ⟨g, ho⟩, ez, hv⟩ := I
  have h540 := hv.iN540
  obtain ⟨b2, hb2⟩ : ∃ b2, b2 = Cr + 25 * (540 - iN σ.mi) := ⟨_, rfl⟩
  obtain ⟨d2, hd2⟩ : ∃ d2, d2 = Dr + 100 * (540 - iN σ.mi) := ⟨_, rfl⟩
  obtain ⟨b3, hb3⟩ : ∃ b3, b3 = b2 + 1195 := ⟨_, rfl⟩
  obtain ⟨d3, hd3⟩ : ∃ d3, d3 = d2 + 4582 := ⟨_, rfl⟩
  refine AW.mono (bc2 := b3) (bs2 := d3) (by omega) (by omega) ?_
  refine aw_ald1 X dL_law_1894 rfl ?_
  refine aw_callV X dL_law_1895 rfl (k_X6_digest X.1 (by decide) w) cmX6_digest ml_L_199 rfl w.1 rfl rfl (Nat.le_of_ble_eq_true rfl) ⟨Nat.le_of_ble_eq_true rfl, Nat.le_of_ble_eq_true rfl⟩ (fun r h2 hq hf => ?_)
  obtain ⟨rfl, A2, w2⟩ := hq
  have ho2 := hf.1 _ _ _ ho (by decide)
  have ez2 := ez.fr hf (by decide)
  have hm2 := hm.tagK (fun a x e => hf.1 _ _ _ e (by decide)) ((hf.1 _ _ _ ez.1 (by decide)).trans ez.1.symm)
  refine aw_tg (tg2 := 2) hz0 (by decide) ?_
  refine aw_ald2 X dL_law_1898 rfl ?_
  refine AW.mono (bc2 := b2 + 1195) (bs2 := d2 + 4582) (Nat.le_of_eq hb3.symm) (Nat.le_of_eq hd3.symm) ?_
  refine aw_callV X dL_law_1899 rfl (k_X7_digest X.1 (by decide) hm2 hv ez2.2) cmX7_digest ml_L_203 rfl hm2.1 rfl rfl (Nat.le_of_ble_eq_true rfl) ⟨Nat.le_of_ble_eq_true rfl, Nat.le_of_ble_eq_true rfl⟩ (fun r h3 hq3 hf3 => ?_)
  obtain ⟨rfl, sm3, w3⟩ := hq3
  have ho3 := hf3.1 _ _ _ ho2 (by decide)
  have w4 := w2.tagK (fun a x e => hf3.1 _ _ _ e (by decide)) ((hf3.1 _ _ _ ez2.1 (by decide)).trans ez2.1.symm)
  have ez3 := ez2.fr hf3 (by decide)
  refine aw_tg (tg2 := 1) hz0 (by decide) ?_
  refine aw_lcmp X dL_law_1902 rfl ?_
  refine aw_if_eq (n2 := 1908) X dL_law_1903 rfl rfl (fun _ => ?_) (fun c9 => absurd (lgc_eq rfl) c9)
  exact k h3 _ _ _ _ _ _ _ ⟨⟨_, w4⟩, ⟨_, _, _, w3⟩, ⟨g, ho3⟩, ez3, hv⟩ (Nat.le_of_eq hb2.symm) (Nat.le_of_eq hd2.symm)
