/-! THE LAW'S CASES -/
section LAWC
variable {p : Program} {l : Launch} {e : Env} {R : Room} {s : State} {m : MethodId} {args : Array Value} {below : List Frame} {meth : Method} {c : Code} {Q : State → Prop} {s0 : State} {a0 : Array Value} {G : GG} {cc : ByteArray} {own : String} {nL tg : Nat} {h0 h : AH} {bc bs pc n : Nat} {L : List (Option Value)} {st : List Value}
/-- where only cells of the tag 0 are held, the tag of the maker is no matter -/
theorem aw_tg {tg2 : Nat} (hz0 : ∀ b t x, h0 b = some (t, x) → t = 0) (h1 : tg ≠ 0) (k : AW p l e R s m args below meth c Q s0 G nL tg2 h0 h bc bs n L st) : AW p l e R s m args below meth c Q s0 G nL tg h0 h bc bs n L st := fun H locs cells slots ls r f z hc hs hl => k H locs cells slots ls r ⟨fun b t x e9 n9 => f.1 b t x e9 (fun q => h1 (by rw [← q]; exact hz0 b t x e9)), f.2⟩ z hc hs hl
end LAWC
theorem tag_ne {h : AH} {a b t u : Nat} {x y : AE} (e : h a = some (t, x)) (e2 : h b = some (u, y)) (n : t ≠ u) : a ≠ b := fun q => by
  rw [q, e2] at e
  exact n (congrArg Prod.fst (Option.some.inj e)).symm
theorem LI.tagK {G : GG} {h h2 : AH} {tg L n ed cap : Nat} {g : Nat → Option Nat} {md : Int32} (w : LI G h tg L n g ed cap md) (hk : ∀ a x, h a = some (tg, x) → h2 a = some (tg, x)) (hz : h2 (G.2.2 0) = h (G.2.2 0)) : LI G h2 tg L n g ed cap md := by
  refine w.kept ((hk _ _ w.1).trans w.1.symm) ?_
  rcases w.2.2.2 with ⟨-, e2, -, -⟩ | ⟨-, e2⟩
  · rw [e2]; exact hz
  · exact (hk _ _ e2).trans e2.symm
theorem KelW.tagK {G : GG} {h h2 : AH} {tg ke : Nat} {A : KA} {σ : NS} (w : KelW G h tg ke A σ) (hk : ∀ a x, h a = some (tg, x) → h2 a = some (tg, x)) (hz : h2 (G.2.2 0) = h (G.2.2 0)) : KelW G h2 tg ke A σ := by
  obtain ⟨h1, ⟨p1, p2, p3, p4, p5, p6⟩, ⟨q1, q2, q3, q4⟩, h4, h5⟩ := w
  exact ⟨hk _ _ h1, ⟨hk _ _ p1, p2.tagK hk hz, p3.tagK hk hz, fun i hi => ⟨(p4 i hi).1, hk _ _ (p4 i hi).2⟩, fun i hi => ⟨(p5 i hi).1, hk _ _ (p5 i hi).2⟩, p6⟩, ⟨hk _ _ q1, q2.tagK hk hz, fun i hi => ⟨(q3 i hi).1, hk _ _ (q3 i hi).2⟩, q4⟩, hk _ _ h4, h5⟩
theorem PoD.at0 {G : GG} {tg ke : Nat} {R : Rs} {r : Option Value} {h2 : AH} {v : Int32} {τ : NS} (q : PoD G tg ke R r h2) (hR : R = (0, v, τ)) : some (.int v) = r ∧ ∃ A2, KelW G h2 tg ke A2 τ := by
  rw [hR] at q
  exact q
theorem PoD.at1 {G : GG} {tg ke k : Nat} {R : Rs} {r : Option Value} {h2 : AH} {τ : NS} (q : PoD G tg ke R r h2) (hR : R = (k + 1, 0, τ)) : some (.int (-1)) = r ∧ ∃ A2, KelW G h2 tg ke A2 τ := by
  rw [hR] at q
  exact q
theorem PoN.at0 {G : GG} {tg ke : Nat} {R : Rs} {r : Option Value} {h2 : AH} {v : Int32} {τ : NS} (q : PoN G tg ke R r h2) (hR : R = (0, v, τ)) : some (.int v) = r ∧ ∃ A2, KelW G h2 tg ke A2 τ := by
  rw [hR] at q
  exact q.2
theorem r1_0 {R : Rs} {v : Int32} {τ : NS} (hR : R = (0, v, τ)) : R.1 = 0 := by rw [hR]
theorem r1_k {R : Rs} {k : Nat} {v : Int32} {τ : NS} (hR : R = (k, v, τ)) : R.1 = k := by rw [hR]
theorem reach_2 {hd pl : Int32} (e : hd = 2) (h : pl ≤ 5) : reachP hd pl := by
  subst e
  exact h
theorem reach_3 {hd pl : Int32} (e : ¬ hd = 2) (h : 4 ≤ pl) : reachP hd pl := by
  show if hd = 2 then pl ≤ 5 else 4 ≤ pl
  rw [if_neg e]
  exact h
theorem reach_y2 {hd pl : Int32} (e : hd = 2) (h : reachP hd pl) : pl ≤ 5 := by
  subst e
  exact h
theorem reach_y3 {hd pl : Int32} (e : ¬ hd = 2) (h : reachP hd pl) : 4 ≤ pl := by
  have h9 : if hd = 2 then pl ≤ 5 else 4 ≤ pl := h
  rw [if_neg e] at h9
  exact h9
theorem blw61 (v : Int32) : ∃ a, a < 61 ∧ blw v 61 = nI a := blw_in v (N := 61) (by decide) (by decide)
theorem spL_m {σ : NS} {x y z u : Int32} : (spL σ x y z u).ms = σ.ms ∧ (spL σ x y z u).off = σ.off ∧ (spL σ x y z u).di = σ.di := by
  unfold spL
  split <;> exact ⟨rfl, rfl, rfl⟩
theorem not_3 {q : Nat} (hq : q < 100) (c : ¬ nI q ≤ 3) : 4 ≤ nI q := (nI_le (Nat.lt_of_not_le (fun z => c (nI_le z (by decide) : nI q ≤ nI 3))) (by omega) : nI 4 ≤ nI q)
theorem not_6 {q : Nat} (hq : q < 100) (c : ¬ 6 ≤ nI q) : nI q ≤ 5 := (nI_le (Nat.le_of_lt_succ (Nat.lt_of_not_le (fun z => c (nI_le z (by omega) : nI 6 ≤ nI q)))) (by decide) : nI q ≤ nI 5)
theorem next_ne {w n : Nat} (hw : w < n) (hn : 2 ≤ n) : w ≠ (w + 1) % n := by
  rcases Nat.lt_or_ge (w + 1) n with h | h
  · rw [Nat.mod_eq_of_lt h]; omega
  · rw [show w + 1 = n by omega, Nat.mod_self]; omega

set_option maxHeartbeats 4000000 in
set_option maxRecDepth 100000 in
theorem ca_grip {p : Program} {l : Launch} {e : Env} {s : State} {m : MethodId} {below : List Frame} {meth : Method} {c : Code} {Q : State → Prop} {a0 : Array Value} {G : GG} {h0 h : AH} {b ke wa bc bs bc1 bs1 f : Nat} {A : KA} {σ : NS} {t9 x9 : Int32} {gw : Nat → Int32} (X : MX p l s m meth c s a0 G cL_law "KelirnightLaw" 19) (w : KelW G h 1 ke A σ) (hL : LQ σ) (hf5 : f < 5) (hwa : h wa = some (3, .inl (0, 5, .inl gw))) (hgw : ∀ k, k < 5 → gw k = σ.F k 2) (ez : h (G.2.2 0) = some (0, oArr 0 (fun _ => none))) (hsl : ∃ j, j < 1000 ∧ σ.sl = nI j) (hb : bc1 = bc + 1) (hs : bs1 = bs + 6) {y14 y15 y16 y17 y18 : Option Value} (kk : ∀ (h2 : AH) (A2 : KA) (τ : NS) (u2 u3 u4 u6 : Int32) (z14 z15 z16 z17 z18 : Option Value), ST σ τ f → u2 = τ.ms → u3 = τ.sl → u4 = τ.off → u6 = τ.di → KelW G h2 1 ke A2 τ → h2 wa = some (3, .inl (0, 5, .inl gw)) → h2 (G.2.2 0) = some (0, oArr 0 (fun _ => none)) → AW p l e room_1 s m #[.ref b] below meth c Q s G 19 1 h0 h2 bc bs 1161 [some (.ref b), some (.ref ke), some (.int (u2)), some (.int (u3)), some (.int (u4)), some (.int (σ.o 4)), some (.int (u6)), some (.ref wa), some (.int t9), some (.int x9), some (.int (nI f)), some (.int (σ.F f 3)), some (.int (σ.F f 4)), some (.int σ.mi), z14, z15, z16, z17, z18] []) : AW p l e room_1 s m #[.ref b] below meth c Q s G 19 1 h0 h bc1 bs1 176 [some (.ref b), some (.ref ke), some (.int (σ.ms)), some (.int (σ.sl)), some (.int (σ.off)), some (.int (σ.o 4)), some (.int (σ.di)), some (.ref wa), some (.int t9), some (.int x9), some (.int (nI f)), some (.int (σ.F f 3)), some (.int (σ.F f 4)), some (.int σ.mi), y14, y15, y16, y17, y18] [] := by
  have hn12 : σ.nf = 5 := hL.2.2.1
  have hnp8 := hL.1.1.1
  have hnp2 := hL.2.2.2
  have hns := hL.1.1.2.1
  refine aw_ald1 X dL_law_176 rfl ?_
  refine aw_callV X dL_law_177 rfl (k_X6_gripable X.1 w) cmX6_gripable ml_L_44 rfl w.1 rfl rfl (Nat.le_of_ble_eq_true rfl) ⟨Nat.le_of_ble_eq_true rfl, Nat.le_of_ble_eq_true rfl⟩ (aw_rs ?_)
  by_cases hg : grS σ f = -1
  · have hR := grip_is hL hf5
    rw [if_pos hg] at hR
    refine aw_ild10 X dL_law_180 rfl ?_
    refine aw_ishr X dL_law_182 rfl ?_
    refine aw_iconst X (1) dL_law_183 (by decide) rfl ?_
    refine aw_iand X dL_law_184 rfl ?_
    refine aw_iconst X (1) dL_law_185 (by decide) rfl ?_
    refine aw_icmp_ne (n2 := 193) X dL_law_186 rfl rfl (fun c186 => ?_) (fun c186 => absurd c186 (fun q => ((grip_bt (by omega) σ.nf (by omega)).mp ((bt_1 (by omega)).mp q)).2 hg))
    refine aw_iconst X (0) dL_law_193 (by decide) rfl ?_
    refine aw_ist14 X dL_law_194 rfl (by decide) rfl ?_
    refine aw_ald1 X dL_law_196 rfl ?_
    refine aw_iconst X (0) dL_law_197 (by decide) rfl ?_
    refine aw_ild10 X dL_law_198 rfl ?_
    refine AW.mono (bc2 := bc + 1) (bs2 := bs + 6) (Nat.le_of_eq hb.symm) (Nat.le_of_eq hs.symm) ?_
    refine aw_callSH X dL_law_200 rfl (k_done_grip X.1 (by decide) w (nI f) (Or.inr (r1_k hR))) cmhL_done ml_L_48 rfl rfl (Nat.le_of_ble_eq_true rfl) ⟨Nat.le_of_ble_eq_true rfl, Nat.le_of_ble_eq_true rfl⟩ (fun r h2 hq hf => ?_)
    obtain ⟨rfl, A2, w2⟩ := hq.at1 hR
    have hwa2 := hf.1 _ _ _ hwa (by decide)
    have ez2 := hf.1 _ _ _ ez (by decide)
    refine aw_ist15 X dL_law_203 rfl (by decide) rfl ?_
    refine aw_ild15 X dL_law_205 rfl ?_
    refine aw_if_ge (n2 := 214) X dL_law_207 rfl rfl (fun c207 => absurd c207 (by decide)) (fun c207 => ?_)
    refine aw_iconst X (1) dL_law_210 (by decide) rfl ?_
    refine aw_goto (n := 215) X dL_law_211 rfl ?_
    refine aw_ild14 X dL_law_215 rfl ?_
    refine aw_icmp_eq (n2 := 267) X dL_law_217 rfl rfl (fun c217 => absurd c217 (by decide)) (fun c217 => ?_)
    refine aw_ild14 X dL_law_220 rfl ?_
    refine aw_if_eq (n2 := 1161) X dL_law_222 rfl rfl (fun c222 => ?_) (fun c222 => absurd rfl c222)
    exact kk h2 A2 σ _ _ _ _ _ _ _ _ _ (ST.id hL) rfl rfl rfl rfl w2 hwa2 ez2
  · have hR := grip_is hL hf5
    rw [if_neg hg] at hR
    obtain ⟨st, g23, g4⟩ := grip_st hL hf5 hg
    refine aw_ild10 X dL_law_180 rfl ?_
    refine aw_ishr X dL_law_182 rfl ?_
    refine aw_iconst X (1) dL_law_183 (by decide) rfl ?_
    refine aw_iand X dL_law_184 rfl ?_
    refine aw_iconst X (1) dL_law_185 (by decide) rfl ?_
    refine aw_icmp_ne (n2 := 193) X dL_law_186 rfl rfl (fun c186 => absurd ((bt_1 (by omega)).mpr ((grip_bt (by omega) σ.nf (by omega)).mpr ⟨hL.hf hf5, hg⟩)) c186) (fun c186 => ?_)
    refine aw_iconst X (1) dL_law_189 (by decide) rfl ?_
    refine aw_goto (n := 194) X dL_law_190 rfl ?_
    refine aw_ist14 X dL_law_194 rfl (by decide) rfl ?_
    refine aw_ald1 X dL_law_196 rfl ?_
    refine aw_iconst X (0) dL_law_197 (by decide) rfl ?_
    refine aw_ild10 X dL_law_198 rfl ?_
    refine AW.mono (bc2 := bc + 1) (bs2 := bs + 6) (Nat.le_of_eq hb.symm) (Nat.le_of_eq hs.symm) ?_
    refine aw_callSH X dL_law_200 rfl (k_done_grip X.1 (by decide) w (nI f) (Or.inl (r1_0 hR))) cmhL_done ml_L_48 rfl rfl (Nat.le_of_ble_eq_true rfl) ⟨Nat.le_of_ble_eq_true rfl, Nat.le_of_ble_eq_true rfl⟩ (fun r h2 hq hf => ?_)
    obtain ⟨rfl, A2, w2⟩ := hq.at0 hR
    have hwa2 := hf.1 _ _ _ hwa (by decide)
    have ez2 := hf.1 _ _ _ ez (by decide)
    refine aw_ist15 X dL_law_203 rfl (by decide) rfl ?_
    refine aw_ild15 X dL_law_205 rfl ?_
    refine aw_if_ge (n2 := 214) X dL_law_207 rfl rfl (fun c207 => ?_) (fun c207 => absurd (by rcases g23 with z | z <;> rw [z] <;> decide) c207)
    refine aw_iconst X (0) dL_law_214 (by decide) rfl ?_
    refine aw_ild14 X dL_law_215 rfl ?_
    refine aw_icmp_eq (n2 := 267) X dL_law_217 rfl rfl (fun c217 => absurd c217 (by decide)) (fun c217 => ?_)
    refine aw_ild14 X dL_law_220 rfl ?_
    refine aw_if_eq (n2 := 1161) X dL_law_222 rfl rfl (fun c222 => absurd c222 (by decide)) (fun c222 => ?_)
    refine aw_ald1 X dL_law_225 rfl ?_
    refine aw_ild10 X dL_law_226 rfl ?_
    refine aw_iconst X (3) dL_law_228 (by decide) rfl ?_
    refine aw_callV X dL_law_229 rfl (r_fig X.1 w2 rfl (hL.hf hf5) (by decide) (fv3 _ _ _)) cmX6_ofFigure ml_L_37 rfl w2.1 rfl rfl (Nat.le_of_ble_eq_true rfl) ⟨Nat.le_of_ble_eq_true rfl, Nat.le_of_ble_eq_true rfl⟩ (aw_rs ?_)
    refine aw_ild15 X dL_law_232 rfl ?_
    refine aw_icmp_ne (n2 := 267) X dL_law_234 rfl rfl (fun c234 => absurd (show upF σ.F f (grR σ f) f 3 = grS σ f from by rw [upF_at]; exact grR_3) c234) (fun c234 => ?_)
    refine aw_ild15 X dL_law_237 rfl ?_
    refine aw_iconst X (2) dL_law_239 (by decide) rfl ?_
    refine aw_icmp_eq (n2 := 249) X dL_law_240 rfl rfl (fun c240 => ?_) (fun c240 => ?_)
    · refine aw_ild11 X dL_law_249 rfl ?_
      refine aw_iconst X (1) dL_law_251 (by decide) rfl ?_
      refine aw_icmp_ne (n2 := 1161) X dL_law_252 rfl rfl (fun c252 => ?_) (fun c252 => ?_)
      · exact kk h2 A2 _ _ _ _ _ _ _ _ _ _ st rfl rfl rfl rfl w2 hwa2 ez2
      · refine aw_ald1 X dL_law_255 rfl ?_
        refine aw_ild10 X dL_law_256 rfl ?_
        refine aw_iconst X (4) dL_law_258 (by decide) rfl ?_
        refine aw_callV X dL_law_259 rfl (r_fig X.1 w2 rfl (hL.hf hf5) (by decide) (fv4 _ _ _)) cmX6_ofFigure ml_L_37 rfl w2.1 rfl rfl (Nat.le_of_ble_eq_true rfl) ⟨Nat.le_of_ble_eq_true rfl, Nat.le_of_ble_eq_true rfl⟩ (aw_rs ?_)
        refine aw_ild12 X dL_law_262 rfl ?_
        refine aw_icmp_eq (n2 := 1161) X dL_law_264 rfl rfl (fun c264 => ?_) (fun c264 => absurd (show upF σ.F f (grR σ f) f 4 = σ.F f 4 from by rw [upF_at]; exact g4 c252) c264)
        exact kk h2 A2 _ _ _ _ _ _ _ _ _ _ st rfl rfl rfl rfl w2 hwa2 ez2
    · refine aw_ild15 X dL_law_243 rfl ?_
      refine aw_iconst X (3) dL_law_245 (by decide) rfl ?_
      refine aw_icmp_ne (n2 := 267) X dL_law_246 rfl rfl (fun c246 => absurd (g23.resolve_left c240) c246) (fun c246 => ?_)
      refine aw_ild11 X dL_law_249 rfl ?_
      refine aw_iconst X (1) dL_law_251 (by decide) rfl ?_
      refine aw_icmp_ne (n2 := 1161) X dL_law_252 rfl rfl (fun c252 => ?_) (fun c252 => ?_)
      · exact kk h2 A2 _ _ _ _ _ _ _ _ _ _ st rfl rfl rfl rfl w2 hwa2 ez2
      · refine aw_ald1 X dL_law_255 rfl ?_
        refine aw_ild10 X dL_law_256 rfl ?_
        refine aw_iconst X (4) dL_law_258 (by decide) rfl ?_
        refine aw_callV X dL_law_259 rfl (r_fig X.1 w2 rfl (hL.hf hf5) (by decide) (fv4 _ _ _)) cmX6_ofFigure ml_L_37 rfl w2.1 rfl rfl (Nat.le_of_ble_eq_true rfl) ⟨Nat.le_of_ble_eq_true rfl, Nat.le_of_ble_eq_true rfl⟩ (aw_rs ?_)
        refine aw_ild12 X dL_law_262 rfl ?_
        refine aw_icmp_eq (n2 := 1161) X dL_law_264 rfl rfl (fun c264 => ?_) (fun c264 => absurd (show upF σ.F f (grR σ f) f 4 = σ.F f 4 from by rw [upF_at]; exact g4 c252) c264)
        exact kk h2 A2 _ _ _ _ _ _ _ _ _ _ st rfl rfl rfl rfl w2 hwa2 ez2

set_option maxHeartbeats 4000000 in
set_option maxRecDepth 100000 in
theorem ca_move {p : Program} {l : Launch} {e : Env} {s : State} {m : MethodId} {below : List Frame} {meth : Method} {c : Code} {Q : State → Prop} {a0 : Array Value} {G : GG} {h0 h : AH} {b ke wa bc bs bc1 bs1 f : Nat} {A : KA} {σ : NS} {t9 x9 : Int32} {gw : Nat → Int32} (X : MX p l s m meth c s a0 G cL_law "KelirnightLaw" 19) (w : KelW G h 1 ke A σ) (hL : LQ σ) (hf5 : f < 5) (hwa : h wa = some (3, .inl (0, 5, .inl gw))) (hgw : ∀ k, k < 5 → gw k = σ.F k 2) (ez : h (G.2.2 0) = some (0, oArr 0 (fun _ => none))) (hsl : ∃ j, j < 1000 ∧ σ.sl = nI j) (hb : bc1 = bc + 1) (hs : bs1 = bs + 6) {y14 y15 y16 y17 y18 : Option Value} (kk : ∀ (h2 : AH) (A2 : KA) (τ : NS) (u2 u3 u4 u6 : Int32) (z14 z15 z16 z17 z18 : Option Value), ST σ τ f → u2 = τ.ms → u3 = τ.sl → u4 = τ.off → u6 = τ.di → KelW G h2 1 ke A2 τ → h2 wa = some (3, .inl (0, 5, .inl gw)) → h2 (G.2.2 0) = some (0, oArr 0 (fun _ => none)) → AW p l e room_1 s m #[.ref b] below meth c Q s G 19 1 h0 h2 bc bs 1161 [some (.ref b), some (.ref ke), some (.int (u2)), some (.int (u3)), some (.int (u4)), some (.int (σ.o 4)), some (.int (u6)), some (.ref wa), some (.int t9), some (.int x9), some (.int (nI f)), some (.int (σ.F f 3)), some (.int (σ.F f 4)), some (.int σ.mi), z14, z15, z16, z17, z18] []) : AW p l e room_1 s m #[.ref b] below meth c Q s G 19 1 h0 h bc1 bs1 269 [some (.ref b), some (.ref ke), some (.int (σ.ms)), some (.int (σ.sl)), some (.int (σ.off)), some (.int (σ.o 4)), some (.int (σ.di)), some (.ref wa), some (.int t9), some (.int x9), some (.int (nI f)), some (.int (σ.F f 3)), some (.int (σ.F f 4)), some (.int σ.mi), y14, y15, y16, y17, y18] [] := by
  have hn12 : σ.nf = 5 := hL.2.2.1
  have hnp8 := hL.1.1.1
  have hnp2 := hL.2.2.2
  have hns := hL.1.1.2.1
  refine aw_ild9 X dL_law_269 rfl ?_
  refine aw_iconst X (3) dL_law_271 (by decide) rfl ?_
  refine aw_ishr X dL_law_272 rfl ?_
  refine aw_bipush X (10) dL_law_273 (by decide) rfl ?_
  refine aw_callS X dL_law_275 rfl (k_below X.1 _ (N := 10) rfl (by decide) (by decide)) cmL_below ml_L_18 rfl rfl (Nat.le_of_ble_eq_true rfl) ⟨Nat.le_of_ble_eq_true rfl, Nat.le_of_ble_eq_true rfl⟩ (fun r h2 hq hf => ?_)
  obtain ⟨q9, hq9, rfl, rfl⟩ := hq
  by_cases hp : mvP σ f q9
  · skip
    refine aw_ist14 X dL_law_278 rfl (by decide) rfl ?_
    refine aw_ald1 X dL_law_280 rfl ?_
    refine aw_ild10 X dL_law_281 rfl ?_
    refine aw_ild14 X dL_law_283 rfl ?_
    have hR := (move_is hL hf5 hq9).1 hp
    refine AW.mono (bc2 := bc + 1) (bs2 := bs + 6) (Nat.le_of_eq hb.symm) (Nat.le_of_eq hs.symm) ?_
    refine aw_callSH X dL_law_285 rfl (k_mv X.1 (by decide) w (nI f) (nI q9) (Or.inl (r1_0 hR))) cmhL_move ml_L_52 rfl rfl (Nat.le_of_ble_eq_true rfl) ⟨Nat.le_of_ble_eq_true rfl, Nat.le_of_ble_eq_true rfl⟩ (fun r h2 hq hf => ?_)
    obtain ⟨rfl, A2, w2⟩ := hq.at0 hR
    have hwa2 := hf.1 _ _ _ hwa (by decide)
    have ez2 := hf.1 _ _ _ ez (by decide)
    have st := move_st hL hf5 hq9 hp
    obtain ⟨M9, N9, -, -, -, -, hww⟩ := st.2.1
    obtain ⟨a9, b9, -, eb9, -, hb9, -⟩ := hww f hf5
    have ev : wearR (σ.F f) (absI (nI q9 - σ.F f 4)) 2 = nI b9 := by
      rw [← eb9]
      show _ = upF σ.F f (mvR σ f q9) f 2
      rw [upF_at]
      rfl
    refine aw_ist15 X dL_law_288 rfl (by decide) rfl ?_
    refine aw_ild11 X dL_law_290 rfl ?_
    refine aw_iconst X (1) dL_law_292 (by decide) rfl ?_
    refine aw_icmp_le (n2 := 329) X dL_law_293 rfl rfl (fun c293 => absurd c293 (hnd_1 hp.1)) (fun c293 => ?_)
    refine aw_ild14 X dL_law_296 rfl ?_
    refine aw_ild12 X dL_law_298 rfl ?_
    refine aw_icmp_eq (n2 := 329) X dL_law_300 rfl rfl (fun c300 => absurd c300 (fun z => by
          have h9 := hp.2.2
          rw [z, at_fig hL.2.1 (hL.hf hf5) (hnd_0 hp.1).1] at h9
          exact nI_m1 (by omega) h9)) (fun c300 => ?_)
    refine aw_ild11 X dL_law_303 rfl ?_
    refine aw_iconst X (2) dL_law_305 (by decide) rfl ?_
    refine aw_icmp_ne (n2 := 319) X dL_law_306 rfl rfl (fun c306 => ?_) (fun c306 => ?_)
    · refine aw_ild14 X dL_law_319 rfl ?_
      refine aw_iconst X (3) dL_law_321 (by decide) rfl ?_
      refine aw_icmp_le (n2 := 329) X dL_law_322 rfl rfl (fun c322 => absurd c322 (fun z => absurd (Int32.le_trans (reach_y3 c306 hp.2.1) z) (by decide))) (fun c322 => ?_)
      refine aw_iconst X (1) dL_law_325 (by decide) rfl ?_
      refine aw_goto (n := 330) X dL_law_326 rfl ?_
      refine aw_ist16 X dL_law_330 rfl (by decide) rfl ?_
      refine aw_ild15 X dL_law_332 rfl ?_
      refine aw_if_lt (n2 := 381) X dL_law_334 rfl rfl (fun c334 => absurd c334 (by rw [ev]; exact nI_pos (by omega))) (fun c334 => ?_)
      refine aw_ild16 X dL_law_337 rfl ?_
      refine aw_if_eq (n2 := 395) X dL_law_339 rfl rfl (fun c339 => absurd c339 (by decide)) (fun c339 => ?_)
      refine aw_ald1 X dL_law_342 rfl ?_
      refine aw_ild10 X dL_law_343 rfl ?_
      refine aw_iconst X (4) dL_law_345 (by decide) rfl ?_
      refine aw_callV X dL_law_346 rfl (r_fig X.1 w2 rfl (hL.hf hf5) (by decide) (fv4 _ _ _)) cmX6_ofFigure ml_L_37 rfl w2.1 rfl rfl (Nat.le_of_ble_eq_true rfl) ⟨Nat.le_of_ble_eq_true rfl, Nat.le_of_ble_eq_true rfl⟩ (aw_rs ?_)
      refine aw_ild14 X dL_law_349 rfl ?_
      refine aw_icmp_ne (n2 := 395) X dL_law_351 rfl rfl (fun c351 => absurd (show upF σ.F f (mvR σ f q9) f 4 = nI q9 from by rw [upF_at]; rfl) c351) (fun c351 => ?_)
      refine aw_ild15 X dL_law_354 rfl ?_
      refine aw_bipush X (100) dL_law_356 (by decide) rfl ?_
      refine aw_ald7 X dL_law_358 rfl ?_
      refine aw_ild10 X dL_law_360 rfl ?_
      refine aw_iald X (f) dL_law_362 rfl hwa2 rfl hf5 (by decide) ?_
      refine aw_ild14 X dL_law_363 rfl ?_
      refine aw_ild12 X dL_law_365 rfl ?_
      refine aw_isub X dL_law_367 rfl ?_
      refine aw_mabs X dL_law_368 rfl ⟨ml_L_55, mm_abs⟩ (Nat.le_of_ble_eq_true rfl) (Nat.le_of_ble_eq_true rfl) ?_
      refine aw_iadd X dL_law_371 rfl ?_
      refine aw_mmin X dL_law_372 rfl ⟨ml_L_60, mm_min⟩ (Nat.le_of_ble_eq_true rfl) (Nat.le_of_ble_eq_true rfl) ?_
      refine aw_icmp_eq (n2 := 1161) X dL_law_375 rfl rfl (fun c375 => ?_) (fun c375 => absurd (by rw [hgw f hf5]; rfl) c375)
      exact kk h2 A2 _ _ _ _ _ _ _ _ _ _ st rfl rfl rfl rfl w2 hwa2 ez2
    · refine aw_ild14 X dL_law_309 rfl ?_
      refine aw_bipush X (6) dL_law_311 (by decide) rfl ?_
      refine aw_icmp_ge (n2 := 329) X dL_law_313 rfl rfl (fun c313 => absurd c313 (fun z => absurd (Int32.le_trans z (reach_y2 c306 hp.2.1)) (by decide))) (fun c313 => ?_)
      refine aw_goto (n := 325) X dL_law_316 rfl ?_
      refine aw_iconst X (1) dL_law_325 (by decide) rfl ?_
      refine aw_goto (n := 330) X dL_law_326 rfl ?_
      refine aw_ist16 X dL_law_330 rfl (by decide) rfl ?_
      refine aw_ild15 X dL_law_332 rfl ?_
      refine aw_if_lt (n2 := 381) X dL_law_334 rfl rfl (fun c334 => absurd c334 (by rw [ev]; exact nI_pos (by omega))) (fun c334 => ?_)
      refine aw_ild16 X dL_law_337 rfl ?_
      refine aw_if_eq (n2 := 395) X dL_law_339 rfl rfl (fun c339 => absurd c339 (by decide)) (fun c339 => ?_)
      refine aw_ald1 X dL_law_342 rfl ?_
      refine aw_ild10 X dL_law_343 rfl ?_
      refine aw_iconst X (4) dL_law_345 (by decide) rfl ?_
      refine aw_callV X dL_law_346 rfl (r_fig X.1 w2 rfl (hL.hf hf5) (by decide) (fv4 _ _ _)) cmX6_ofFigure ml_L_37 rfl w2.1 rfl rfl (Nat.le_of_ble_eq_true rfl) ⟨Nat.le_of_ble_eq_true rfl, Nat.le_of_ble_eq_true rfl⟩ (aw_rs ?_)
      refine aw_ild14 X dL_law_349 rfl ?_
      refine aw_icmp_ne (n2 := 395) X dL_law_351 rfl rfl (fun c351 => absurd (show upF σ.F f (mvR σ f q9) f 4 = nI q9 from by rw [upF_at]; rfl) c351) (fun c351 => ?_)
      refine aw_ild15 X dL_law_354 rfl ?_
      refine aw_bipush X (100) dL_law_356 (by decide) rfl ?_
      refine aw_ald7 X dL_law_358 rfl ?_
      refine aw_ild10 X dL_law_360 rfl ?_
      refine aw_iald X (f) dL_law_362 rfl hwa2 rfl hf5 (by decide) ?_
      refine aw_ild14 X dL_law_363 rfl ?_
      refine aw_ild12 X dL_law_365 rfl ?_
      refine aw_isub X dL_law_367 rfl ?_
      refine aw_mabs X dL_law_368 rfl ⟨ml_L_55, mm_abs⟩ (Nat.le_of_ble_eq_true rfl) (Nat.le_of_ble_eq_true rfl) ?_
      refine aw_iadd X dL_law_371 rfl ?_
      refine aw_mmin X dL_law_372 rfl ⟨ml_L_60, mm_min⟩ (Nat.le_of_ble_eq_true rfl) (Nat.le_of_ble_eq_true rfl) ?_
      refine aw_icmp_eq (n2 := 1161) X dL_law_375 rfl rfl (fun c375 => ?_) (fun c375 => absurd (by rw [hgw f hf5]; rfl) c375)
      exact kk h2 A2 _ _ _ _ _ _ _ _ _ _ st rfl rfl rfl rfl w2 hwa2 ez2
  · skip
    refine aw_ist14 X dL_law_278 rfl (by decide) rfl ?_
    refine aw_ald1 X dL_law_280 rfl ?_
    refine aw_ild10 X dL_law_281 rfl ?_
    refine aw_ild14 X dL_law_283 rfl ?_
    have hR := (move_is hL hf5 hq9).2 hp
    refine AW.mono (bc2 := bc + 1) (bs2 := bs + 6) (Nat.le_of_eq hb.symm) (Nat.le_of_eq hs.symm) ?_
    refine aw_callSH X dL_law_285 rfl (k_mv X.1 (by decide) w (nI f) (nI q9) (Or.inr (r1_k hR))) cmhL_move ml_L_52 rfl rfl (Nat.le_of_ble_eq_true rfl) ⟨Nat.le_of_ble_eq_true rfl, Nat.le_of_ble_eq_true rfl⟩ (fun r h2 hq hf => ?_)
    obtain ⟨rfl, A2, w2⟩ := hq.at1 hR
    have hwa2 := hf.1 _ _ _ hwa (by decide)
    have ez2 := hf.1 _ _ _ ez (by decide)
    refine aw_ist15 X dL_law_288 rfl (by decide) rfl ?_
    refine aw_ild11 X dL_law_290 rfl ?_
    refine aw_iconst X (1) dL_law_292 (by decide) rfl ?_
    refine aw_icmp_le (n2 := 329) X dL_law_293 rfl rfl (fun c293 => ?_) (fun c293 => ?_)
    · refine aw_iconst X (0) dL_law_329 (by decide) rfl ?_
      refine aw_ist16 X dL_law_330 rfl (by decide) rfl ?_
      refine aw_ild15 X dL_law_332 rfl ?_
      refine aw_if_lt (n2 := 381) X dL_law_334 rfl rfl (fun c334 => ?_) (fun c334 => absurd (by decide) c334)
      refine aw_ild16 X dL_law_381 rfl ?_
      refine aw_if_eq (n2 := 1161) X dL_law_383 rfl rfl (fun c383 => ?_) (fun c383 => absurd rfl c383)
      exact kk h2 A2 σ _ _ _ _ _ _ _ _ _ (ST.id hL) rfl rfl rfl rfl w2 hwa2 ez2
    · refine aw_ild14 X dL_law_296 rfl ?_
      refine aw_ild12 X dL_law_298 rfl ?_
      refine aw_icmp_eq (n2 := 329) X dL_law_300 rfl rfl (fun c300 => ?_) (fun c300 => ?_)
      · refine aw_iconst X (0) dL_law_329 (by decide) rfl ?_
        refine aw_ist16 X dL_law_330 rfl (by decide) rfl ?_
        refine aw_ild15 X dL_law_332 rfl ?_
        refine aw_if_lt (n2 := 381) X dL_law_334 rfl rfl (fun c334 => ?_) (fun c334 => absurd (by decide) c334)
        refine aw_ild16 X dL_law_381 rfl ?_
        refine aw_if_eq (n2 := 1161) X dL_law_383 rfl rfl (fun c383 => ?_) (fun c383 => absurd rfl c383)
        exact kk h2 A2 σ _ _ _ _ _ _ _ _ _ (ST.id hL) rfl rfl rfl rfl w2 hwa2 ez2
      · refine aw_ild11 X dL_law_303 rfl ?_
        refine aw_iconst X (2) dL_law_305 (by decide) rfl ?_
        refine aw_icmp_ne (n2 := 319) X dL_law_306 rfl rfl (fun c306 => ?_) (fun c306 => ?_)
        · refine aw_ild14 X dL_law_319 rfl ?_
          refine aw_iconst X (3) dL_law_321 (by decide) rfl ?_
          refine aw_icmp_le (n2 := 329) X dL_law_322 rfl rfl (fun c322 => ?_) (fun c322 => ?_)
          · refine aw_iconst X (0) dL_law_329 (by decide) rfl ?_
            refine aw_ist16 X dL_law_330 rfl (by decide) rfl ?_
            refine aw_ild15 X dL_law_332 rfl ?_
            refine aw_if_lt (n2 := 381) X dL_law_334 rfl rfl (fun c334 => ?_) (fun c334 => absurd (by decide) c334)
            refine aw_ild16 X dL_law_381 rfl ?_
            refine aw_if_eq (n2 := 1161) X dL_law_383 rfl rfl (fun c383 => ?_) (fun c383 => absurd rfl c383)
            exact kk h2 A2 σ _ _ _ _ _ _ _ _ _ (ST.id hL) rfl rfl rfl rfl w2 hwa2 ez2
          · refine aw_iconst X (1) dL_law_325 (by decide) rfl ?_
            refine aw_goto (n := 330) X dL_law_326 rfl ?_
            refine aw_ist16 X dL_law_330 rfl (by decide) rfl ?_
            refine aw_ild15 X dL_law_332 rfl ?_
            refine aw_if_lt (n2 := 381) X dL_law_334 rfl rfl (fun c334 => ?_) (fun c334 => absurd (by decide) c334)
            refine aw_ild16 X dL_law_381 rfl ?_
            refine aw_if_eq (n2 := 1161) X dL_law_383 rfl rfl (fun c383 => absurd c383 (by decide)) (fun c383 => ?_)
            refine aw_ald1 X dL_law_386 rfl ?_
            refine aw_ild14 X dL_law_387 rfl ?_
            refine aw_callV X dL_law_389 rfl (r_at X.1 w2 (i_in (k := q9) (n := 9) (by omega) (by decide))) cmX6_at ml_L_63 rfl w2.1 rfl rfl (Nat.le_of_ble_eq_true rfl) ⟨Nat.le_of_ble_eq_true rfl, Nat.le_of_ble_eq_true rfl⟩ (aw_rs ?_)
            refine aw_if_ge (n2 := 1161) X dL_law_392 rfl rfl (fun c392 => ?_) (fun c392 => absurd (Int32.not_lt.mp (fun z => hp ⟨hL.hnd hf5 c293, reach_3 c306 (not_3 (by omega) c322), (at_lt (by omega)).mp z⟩)) c392)
            exact kk h2 A2 σ _ _ _ _ _ _ _ _ _ (ST.id hL) rfl rfl rfl rfl w2 hwa2 ez2
        · refine aw_ild14 X dL_law_309 rfl ?_
          refine aw_bipush X (6) dL_law_311 (by decide) rfl ?_
          refine aw_icmp_ge (n2 := 329) X dL_law_313 rfl rfl (fun c313 => ?_) (fun c313 => ?_)
          · refine aw_iconst X (0) dL_law_329 (by decide) rfl ?_
            refine aw_ist16 X dL_law_330 rfl (by decide) rfl ?_
            refine aw_ild15 X dL_law_332 rfl ?_
            refine aw_if_lt (n2 := 381) X dL_law_334 rfl rfl (fun c334 => ?_) (fun c334 => absurd (by decide) c334)
            refine aw_ild16 X dL_law_381 rfl ?_
            refine aw_if_eq (n2 := 1161) X dL_law_383 rfl rfl (fun c383 => ?_) (fun c383 => absurd rfl c383)
            exact kk h2 A2 σ _ _ _ _ _ _ _ _ _ (ST.id hL) rfl rfl rfl rfl w2 hwa2 ez2
          · refine aw_goto (n := 325) X dL_law_316 rfl ?_
            refine aw_iconst X (1) dL_law_325 (by decide) rfl ?_
            refine aw_goto (n := 330) X dL_law_326 rfl ?_
            refine aw_ist16 X dL_law_330 rfl (by decide) rfl ?_
            refine aw_ild15 X dL_law_332 rfl ?_
            refine aw_if_lt (n2 := 381) X dL_law_334 rfl rfl (fun c334 => ?_) (fun c334 => absurd (by decide) c334)
            refine aw_ild16 X dL_law_381 rfl ?_
            refine aw_if_eq (n2 := 1161) X dL_law_383 rfl rfl (fun c383 => absurd c383 (by decide)) (fun c383 => ?_)
            refine aw_ald1 X dL_law_386 rfl ?_
            refine aw_ild14 X dL_law_387 rfl ?_
            refine aw_callV X dL_law_389 rfl (r_at X.1 w2 (i_in (k := q9) (n := 9) (by omega) (by decide))) cmX6_at ml_L_63 rfl w2.1 rfl rfl (Nat.le_of_ble_eq_true rfl) ⟨Nat.le_of_ble_eq_true rfl, Nat.le_of_ble_eq_true rfl⟩ (aw_rs ?_)
            refine aw_if_ge (n2 := 1161) X dL_law_392 rfl rfl (fun c392 => ?_) (fun c392 => absurd (Int32.not_lt.mp (fun z => hp ⟨hL.hnd hf5 c293, reach_2 c306 (not_6 (by omega) c313), (at_lt (by omega)).mp z⟩)) c392)
            exact kk h2 A2 σ _ _ _ _ _ _ _ _ _ (ST.id hL) rfl rfl rfl rfl w2 hwa2 ez2

set_option maxHeartbeats 4000000 in
set_option maxRecDepth 100000 in
theorem ca_lift {p : Program} {l : Launch} {e : Env} {s : State} {m : MethodId} {below : List Frame} {meth : Method} {c : Code} {Q : State → Prop} {a0 : Array Value} {G : GG} {h0 h : AH} {b ke wa bc bs bc1 bs1 f : Nat} {A : KA} {σ : NS} {t9 x9 : Int32} {gw : Nat → Int32} (X : MX p l s m meth c s a0 G cL_law "KelirnightLaw" 19) (w : KelW G h 1 ke A σ) (hL : LQ σ) (hf5 : f < 5) (hwa : h wa = some (3, .inl (0, 5, .inl gw))) (hgw : ∀ k, k < 5 → gw k = σ.F k 2) (ez : h (G.2.2 0) = some (0, oArr 0 (fun _ => none))) (hsl : ∃ j, j < 1000 ∧ σ.sl = nI j) (hb : bc1 = bc + 1) (hs : bs1 = bs + 6) {y14 y15 y16 y17 y18 : Option Value} (kk : ∀ (h2 : AH) (A2 : KA) (τ : NS) (u2 u3 u4 u6 : Int32) (z14 z15 z16 z17 z18 : Option Value), ST σ τ f → u2 = τ.ms → u3 = τ.sl → u4 = τ.off → u6 = τ.di → KelW G h2 1 ke A2 τ → h2 wa = some (3, .inl (0, 5, .inl gw)) → h2 (G.2.2 0) = some (0, oArr 0 (fun _ => none)) → AW p l e room_1 s m #[.ref b] below meth c Q s G 19 1 h0 h2 bc bs 1161 [some (.ref b), some (.ref ke), some (.int (u2)), some (.int (u3)), some (.int (u4)), some (.int (σ.o 4)), some (.int (u6)), some (.ref wa), some (.int t9), some (.int x9), some (.int (nI f)), some (.int (σ.F f 3)), some (.int (σ.F f 4)), some (.int σ.mi), z14, z15, z16, z17, z18] []) : AW p l e room_1 s m #[.ref b] below meth c Q s G 19 1 h0 h bc1 bs1 397 [some (.ref b), some (.ref ke), some (.int (σ.ms)), some (.int (σ.sl)), some (.int (σ.off)), some (.int (σ.o 4)), some (.int (σ.di)), some (.ref wa), some (.int t9), some (.int x9), some (.int (nI f)), some (.int (σ.F f 3)), some (.int (σ.F f 4)), some (.int σ.mi), y14, y15, y16, y17, y18] [] := by
  have hn12 : σ.nf = 5 := hL.2.2.1
  have hnp8 := hL.1.1.1
  have hnp2 := hL.2.2.2
  have hns := hL.1.1.2.1
  refine aw_ild11 X dL_law_397 rfl ?_
  refine aw_iconst X (1) dL_law_399 (by decide) rfl ?_
  refine aw_icmp_le (n2 := 1161) X dL_law_400 rfl rfl (fun c400 => ?_) (fun c400 => ?_)
  · refine AW.mono (bc2 := bc) (bs2 := bs) (by omega) (by omega) ?_
    exact kk h A σ _ _ _ _ _ _ _ _ _ (ST.id hL) rfl rfl rfl rfl w hwa ez
  · have hp := hL.hnd hf5 c400
    refine aw_ald1 X dL_law_403 rfl ?_
    refine aw_ild10 X dL_law_404 rfl ?_
    refine aw_ild9 X dL_law_406 rfl ?_
    refine aw_iconst X (3) dL_law_408 (by decide) rfl ?_
    refine aw_ishr X dL_law_409 rfl ?_
    refine aw_bipush X (16) dL_law_410 (by decide) rfl ?_
    refine aw_callS X dL_law_412 rfl (k_below X.1 _ (N := 16) rfl (by decide) (by decide)) cmL_below ml_L_18 rfl rfl (Nat.le_of_ble_eq_true rfl) ⟨Nat.le_of_ble_eq_true rfl, Nat.le_of_ble_eq_true rfl⟩ (fun r h2 hq hf => ?_)
    obtain ⟨q9, hq9, rfl, rfl⟩ := hq
    refine AW.mono (bc2 := bc + 1) (bs2 := bs + 6) (Nat.le_of_eq hb.symm) (Nat.le_of_eq hs.symm) ?_
    refine aw_callVX X dL_law_415 rfl (k_X6_lift X.1 (by decide) w (nI f) (nI q9)) cmX6_lift ml_L_66 rfl w.1 rfl rfl (Nat.le_of_ble_eq_true rfl) ⟨Nat.le_of_ble_eq_true rfl, Nat.le_of_ble_eq_true rfl⟩ (fun r h2 hq hf => ?_) (fun E h2 hq hf => absurd (r1_0 (lift_is hL hf5 hq9 hp)) hq.2.1)
    obtain ⟨rfl, A2, w2⟩ := hq.at0 (lift_is hL hf5 hq9 hp)
    have hwa2 := hf.1 _ _ _ hwa (by decide)
    have ez2 := hf.1 _ _ _ ez (by decide)
    have st := lift_st hL hf5 hq9 hp
    refine aw_ald1 X dL_law_418 rfl ?_
    refine aw_ild10 X dL_law_419 rfl ?_
    refine aw_bipush X (6) dL_law_421 (by decide) rfl ?_
    refine aw_callV X dL_law_423 rfl (r_fig X.1 w2 rfl (hL.hf hf5) (by decide) (fv6 _ _ _)) cmX6_ofFigure ml_L_37 rfl w2.1 rfl rfl (Nat.le_of_ble_eq_true rfl) ⟨Nat.le_of_ble_eq_true rfl, Nat.le_of_ble_eq_true rfl⟩ (aw_rs ?_)
    refine aw_icmp_eq (n2 := 1161) X dL_law_426 rfl rfl (fun c426 => ?_) (fun c426 => absurd (show shad (σ.F f) σ.di (nI q9) = shad (upF σ.F f (upd (σ.F f) 5 (nI q9)) f) σ.di (upF σ.F f (upd (σ.F f) 5 (nI q9)) f 5) from by rw [upF_at]; rfl) c426)
    exact kk h2 A2 _ _ _ _ _ _ _ _ _ _ st rfl rfl rfl rfl w2 hwa2 ez2

set_option maxHeartbeats 4000000 in
set_option maxRecDepth 100000 in
theorem ca_plant {p : Program} {l : Launch} {e : Env} {s : State} {m : MethodId} {below : List Frame} {meth : Method} {c : Code} {Q : State → Prop} {a0 : Array Value} {G : GG} {h0 h : AH} {b ke wa bc bs bc1 bs1 f : Nat} {A : KA} {σ : NS} {t9 x9 : Int32} {gw : Nat → Int32} (X : MX p l s m meth c s a0 G cL_law "KelirnightLaw" 19) (w : KelW G h 1 ke A σ) (hL : LQ σ) (hf5 : f < 5) (hwa : h wa = some (3, .inl (0, 5, .inl gw))) (hgw : ∀ k, k < 5 → gw k = σ.F k 2) (ez : h (G.2.2 0) = some (0, oArr 0 (fun _ => none))) (hsl : ∃ j, j < 1000 ∧ σ.sl = nI j) (hb : bc1 = bc + 1) (hs : bs1 = bs + 6) {y14 y15 y16 y17 y18 : Option Value} (kk : ∀ (h2 : AH) (A2 : KA) (τ : NS) (u2 u3 u4 u6 : Int32) (z14 z15 z16 z17 z18 : Option Value), ST σ τ f → u2 = τ.ms → u3 = τ.sl → u4 = τ.off → u6 = τ.di → KelW G h2 1 ke A2 τ → h2 wa = some (3, .inl (0, 5, .inl gw)) → h2 (G.2.2 0) = some (0, oArr 0 (fun _ => none)) → AW p l e room_1 s m #[.ref b] below meth c Q s G 19 1 h0 h2 bc bs 1161 [some (.ref b), some (.ref ke), some (.int (u2)), some (.int (u3)), some (.int (u4)), some (.int (σ.o 4)), some (.int (u6)), some (.ref wa), some (.int t9), some (.int x9), some (.int (nI f)), some (.int (σ.F f 3)), some (.int (σ.F f 4)), some (.int σ.mi), z14, z15, z16, z17, z18] []) : AW p l e room_1 s m #[.ref b] below meth c Q s G 19 1 h0 h bc1 bs1 431 [some (.ref b), some (.ref ke), some (.int (σ.ms)), some (.int (σ.sl)), some (.int (σ.off)), some (.int (σ.o 4)), some (.int (σ.di)), some (.ref wa), some (.int t9), some (.int x9), some (.int (nI f)), some (.int (σ.F f 3)), some (.int (σ.F f 4)), some (.int σ.mi), y14, y15, y16, y17, y18] [] := by
  have hn12 : σ.nf = 5 := hL.2.2.1
  have hnp8 := hL.1.1.1
  have hnp2 := hL.2.2.2
  have hns := hL.1.1.2.1
  refine aw_ild11 X dL_law_431 rfl ?_
  refine aw_iconst X (1) dL_law_433 (by decide) rfl ?_
  refine aw_icmp_le (n2 := 441) X dL_law_434 rfl rfl (fun c434 => ?_) (fun c434 => ?_)
  · refine aw_iconst X (0) dL_law_441 (by decide) rfl ?_
    refine aw_ald1 X dL_law_442 rfl ?_
    refine aw_iconst X (1) dL_law_443 (by decide) rfl ?_
    refine aw_ild10 X dL_law_444 rfl ?_
    have hR := (plant_is hL hf5).2 (fun z => hnd_1 z c434)
    refine AW.mono (bc2 := bc + 1) (bs2 := bs + 6) (Nat.le_of_eq hb.symm) (Nat.le_of_eq hs.symm) ?_
    refine aw_callSH X dL_law_446 rfl (k_done_plant X.1 (by decide) w (nI f) (Or.inr (r1_k hR))) cmhL_done ml_L_48 rfl rfl (Nat.le_of_ble_eq_true rfl) ⟨Nat.le_of_ble_eq_true rfl, Nat.le_of_ble_eq_true rfl⟩ (fun r h2 hq hf => ?_)
    obtain ⟨rfl, A2, w2⟩ := hq.at1 hR
    have hwa2 := hf.1 _ _ _ hwa (by decide)
    have ez2 := hf.1 _ _ _ ez (by decide)
    refine aw_if_lt (n2 := 456) X dL_law_449 rfl rfl (fun c449 => ?_) (fun c449 => absurd (by decide) c449)
    refine aw_iconst X (0) dL_law_456 (by decide) rfl ?_
    refine aw_icmp_ne (n2 := 477) X dL_law_457 rfl rfl (fun c457 => absurd rfl c457) (fun c457 => ?_)
    refine aw_ild11 X dL_law_460 rfl ?_
    refine aw_iconst X (1) dL_law_462 (by decide) rfl ?_
    refine aw_icmp_le (n2 := 1161) X dL_law_463 rfl rfl (fun c463 => ?_) (fun c463 => absurd c434 c463)
    exact kk h2 A2 σ _ _ _ _ _ _ _ _ _ (ST.id hL) rfl rfl rfl rfl w2 hwa2 ez2
  · refine aw_iconst X (1) dL_law_437 (by decide) rfl ?_
    refine aw_goto (n := 442) X dL_law_438 rfl ?_
    refine aw_ald1 X dL_law_442 rfl ?_
    refine aw_iconst X (1) dL_law_443 (by decide) rfl ?_
    refine aw_ild10 X dL_law_444 rfl ?_
    have hp := hL.hnd hf5 c434
    have hR := (plant_is hL hf5).1 hp
    refine AW.mono (bc2 := bc + 1) (bs2 := bs + 6) (Nat.le_of_eq hb.symm) (Nat.le_of_eq hs.symm) ?_
    refine aw_callSH X dL_law_446 rfl (k_done_plant X.1 (by decide) w (nI f) (Or.inl (r1_0 hR))) cmhL_done ml_L_48 rfl rfl (Nat.le_of_ble_eq_true rfl) ⟨Nat.le_of_ble_eq_true rfl, Nat.le_of_ble_eq_true rfl⟩ (fun r h2 hq hf => ?_)
    obtain ⟨rfl, A2, w2⟩ := hq.at0 hR
    have hwa2 := hf.1 _ _ _ hwa (by decide)
    have ez2 := hf.1 _ _ _ ez (by decide)
    have st := plant_st hL hf5 hp
    refine aw_if_lt (n2 := 456) X dL_law_449 rfl rfl (fun c449 => absurd c449 (Int32.not_lt.mpr (hL.1.hand (hL.hf hf5) hp).1.1)) (fun c449 => ?_)
    refine aw_iconst X (1) dL_law_452 (by decide) rfl ?_
    refine aw_goto (n := 457) X dL_law_453 rfl ?_
    refine aw_icmp_ne (n2 := 477) X dL_law_457 rfl rfl (fun c457 => absurd rfl c457) (fun c457 => ?_)
    refine aw_ild11 X dL_law_460 rfl ?_
    refine aw_iconst X (1) dL_law_462 (by decide) rfl ?_
    refine aw_icmp_le (n2 := 1161) X dL_law_463 rfl rfl (fun c463 => absurd c463 c434) (fun c463 => ?_)
    refine aw_ald1 X dL_law_466 rfl ?_
    refine aw_ild10 X dL_law_467 rfl ?_
    refine aw_iconst X (3) dL_law_469 (by decide) rfl ?_
    refine aw_callV X dL_law_470 rfl (r_fig X.1 w2 rfl (hL.hf hf5) (by decide) (fv3 _ _ _)) cmX6_ofFigure ml_L_37 rfl w2.1 rfl rfl (Nat.le_of_ble_eq_true rfl) ⟨Nat.le_of_ble_eq_true rfl, Nat.le_of_ble_eq_true rfl⟩ (aw_rs ?_)
    refine aw_iconst X (1) dL_law_473 (by decide) rfl ?_
    refine aw_icmp_eq (n2 := 1161) X dL_law_474 rfl rfl (fun c474 => ?_) (fun c474 => absurd (show upF σ.F f (upd (upd (σ.F f) 3 1) 5 0) f 3 = 1 from by rw [upF_at]; rfl) c474)
    exact kk h2 A2 _ _ _ _ _ _ _ _ _ _ st rfl rfl rfl rfl w2 hwa2 ez2

set_option maxHeartbeats 4000000 in
set_option maxRecDepth 100000 in
theorem ca_hand {p : Program} {l : Launch} {e : Env} {s : State} {m : MethodId} {below : List Frame} {meth : Method} {c : Code} {Q : State → Prop} {a0 : Array Value} {G : GG} {h0 h : AH} {b ke wa bc bs bc1 bs1 f : Nat} {A : KA} {σ : NS} {t9 x9 : Int32} {gw : Nat → Int32} (X : MX p l s m meth c s a0 G cL_law "KelirnightLaw" 19) (w : KelW G h 1 ke A σ) (hL : LQ σ) (hf5 : f < 5) (hwa : h wa = some (3, .inl (0, 5, .inl gw))) (hgw : ∀ k, k < 5 → gw k = σ.F k 2) (ez : h (G.2.2 0) = some (0, oArr 0 (fun _ => none))) (hsl : ∃ j, j < 1000 ∧ σ.sl = nI j) (hb : bc1 = bc + 1) (hs : bs1 = bs + 6) {y14 y15 y16 y17 y18 : Option Value} (kk : ∀ (h2 : AH) (A2 : KA) (τ : NS) (u2 u3 u4 u6 : Int32) (z14 z15 z16 z17 z18 : Option Value), ST σ τ f → u2 = τ.ms → u3 = τ.sl → u4 = τ.off → u6 = τ.di → KelW G h2 1 ke A2 τ → h2 wa = some (3, .inl (0, 5, .inl gw)) → h2 (G.2.2 0) = some (0, oArr 0 (fun _ => none)) → AW p l e room_1 s m #[.ref b] below meth c Q s G 19 1 h0 h2 bc bs 1161 [some (.ref b), some (.ref ke), some (.int (u2)), some (.int (u3)), some (.int (u4)), some (.int (σ.o 4)), some (.int (u6)), some (.ref wa), some (.int t9), some (.int x9), some (.int (nI f)), some (.int (σ.F f 3)), some (.int (σ.F f 4)), some (.int σ.mi), z14, z15, z16, z17, z18] []) : AW p l e room_1 s m #[.ref b] below meth c Q s G 19 1 h0 h bc1 bs1 479 [some (.ref b), some (.ref ke), some (.int (σ.ms)), some (.int (σ.sl)), some (.int (σ.off)), some (.int (σ.o 4)), some (.int (σ.di)), some (.ref wa), some (.int t9), some (.int x9), some (.int (nI f)), some (.int (σ.F f 3)), some (.int (σ.F f 4)), some (.int σ.mi), y14, y15, y16, y17, y18] [] := by
  have hn12 : σ.nf = 5 := hL.2.2.1
  have hnp8 := hL.1.1.1
  have hnp2 := hL.2.2.2
  have hns := hL.1.1.2.1
  by_cases hp : haP σ f
  · refine aw_ald1 X dL_law_479 rfl ?_
    refine aw_iconst X (2) dL_law_480 (by decide) rfl ?_
    refine aw_ild10 X dL_law_481 rfl ?_
    have hR := (hand_is hL hf5).1 hp
    obtain ⟨st, e5, n4, n5, n0⟩ := hand_st hL hf5 hp
    refine AW.mono (bc2 := bc + 1) (bs2 := bs + 6) (Nat.le_of_eq hb.symm) (Nat.le_of_eq hs.symm) ?_
    refine aw_callSH X dL_law_483 rfl (k_done_hand X.1 (by decide) w (nI f) (Or.inl (r1_0 hR))) cmhL_done ml_L_48 rfl rfl (Nat.le_of_ble_eq_true rfl) ⟨Nat.le_of_ble_eq_true rfl, Nat.le_of_ble_eq_true rfl⟩ (fun r h2 hq hf => ?_)
    obtain ⟨rfl, A2, w2⟩ := hq.at0 hR
    have hwa2 := hf.1 _ _ _ hwa (by decide)
    have ez2 := hf.1 _ _ _ ez (by decide)
    refine aw_ist14 X dL_law_486 rfl (by decide) rfl ?_
    refine aw_ild14 X dL_law_488 rfl ?_
    refine aw_if_lt (n2 := 520) X dL_law_490 rfl rfl (fun c490 => absurd c490 n0) (fun c490 => ?_)
    refine aw_ild11 X dL_law_493 rfl ?_
    refine aw_iconst X (2) dL_law_495 (by decide) rfl ?_
    refine aw_icmp_lt (n2 := 537) X dL_law_496 rfl rfl (fun c496 => absurd c496 (by rcases hp.1 with z | z <;> rw [z] <;> decide)) (fun c496 => ?_)
    refine aw_ild14 X dL_law_499 rfl ?_
    refine aw_iconst X (5) dL_law_501 (by decide) rfl ?_
    refine aw_ild11 X dL_law_502 rfl ?_
    refine aw_isub X dL_law_504 rfl ?_
    refine aw_icmp_ne (n2 := 537) X dL_law_505 rfl rfl (fun c505 => absurd e5 c505) (fun c505 => ?_)
    refine aw_ild12 X dL_law_508 rfl ?_
    refine aw_iconst X (4) dL_law_510 (by decide) rfl ?_
    refine aw_icmp_lt (n2 := 537) X dL_law_511 rfl rfl (fun c511 => absurd c511 n4) (fun c511 => ?_)
    refine aw_ild12 X dL_law_514 rfl ?_
    refine aw_iconst X (5) dL_law_516 (by decide) rfl ?_
    refine aw_icmp_gt (n2 := 537) X dL_law_517 rfl rfl (fun c517 => absurd c517 n5) (fun c517 => ?_)
    refine aw_ild14 X dL_law_520 rfl ?_
    refine aw_if_ge (n2 := 1161) X dL_law_522 rfl rfl (fun c522 => ?_) (fun c522 => absurd (Int32.not_lt.mp n0) c522)
    exact kk h2 A2 _ _ _ _ _ _ _ _ _ _ st rfl rfl rfl rfl w2 hwa2 ez2
  · refine aw_ald1 X dL_law_479 rfl ?_
    refine aw_iconst X (2) dL_law_480 (by decide) rfl ?_
    refine aw_ild10 X dL_law_481 rfl ?_
    have hR := (hand_is hL hf5).2 hp
    refine AW.mono (bc2 := bc + 1) (bs2 := bs + 6) (Nat.le_of_eq hb.symm) (Nat.le_of_eq hs.symm) ?_
    refine aw_callSH X dL_law_483 rfl (k_done_hand X.1 (by decide) w (nI f) (Or.inr (r1_k hR))) cmhL_done ml_L_48 rfl rfl (Nat.le_of_ble_eq_true rfl) ⟨Nat.le_of_ble_eq_true rfl, Nat.le_of_ble_eq_true rfl⟩ (fun r h2 hq hf => ?_)
    obtain ⟨rfl, A2, w2⟩ := hq.at1 hR
    have hwa2 := hf.1 _ _ _ hwa (by decide)
    have ez2 := hf.1 _ _ _ ez (by decide)
    refine aw_ist14 X dL_law_486 rfl (by decide) rfl ?_
    refine aw_ild14 X dL_law_488 rfl ?_
    refine aw_if_lt (n2 := 520) X dL_law_490 rfl rfl (fun c490 => ?_) (fun c490 => absurd (by decide) c490)
    refine aw_ild14 X dL_law_520 rfl ?_
    refine aw_if_ge (n2 := 1161) X dL_law_522 rfl rfl (fun c522 => absurd c522 (by decide)) (fun c522 => ?_)
    refine aw_ald1 X dL_law_525 rfl ?_
    refine aw_ild10 X dL_law_526 rfl ?_
    refine aw_iconst X (3) dL_law_528 (by decide) rfl ?_
    refine aw_callV X dL_law_529 rfl (r_fig X.1 w2 rfl (hL.hf hf5) (by decide) (fv3 _ _ _)) cmX6_ofFigure ml_L_37 rfl w2.1 rfl rfl (Nat.le_of_ble_eq_true rfl) ⟨Nat.le_of_ble_eq_true rfl, Nat.le_of_ble_eq_true rfl⟩ (aw_rs ?_)
    refine aw_ild11 X dL_law_532 rfl ?_
    refine aw_icmp_eq (n2 := 1161) X dL_law_534 rfl rfl (fun c534 => ?_) (fun c534 => absurd rfl c534)
    exact kk h2 A2 σ _ _ _ _ _ _ _ _ _ (ST.id hL) rfl rfl rfl rfl w2 hwa2 ez2

set_option maxHeartbeats 4000000 in
set_option maxRecDepth 100000 in
theorem ca_away {p : Program} {l : Launch} {e : Env} {s : State} {m : MethodId} {below : List Frame} {meth : Method} {c : Code} {Q : State → Prop} {a0 : Array Value} {G : GG} {h0 h : AH} {b ke wa bc bs bc1 bs1 f : Nat} {A : KA} {σ : NS} {t9 x9 : Int32} {gw : Nat → Int32} (X : MX p l s m meth c s a0 G cL_law "KelirnightLaw" 19) (w : KelW G h 1 ke A σ) (hL : LQ σ) (hf5 : f < 5) (hwa : h wa = some (3, .inl (0, 5, .inl gw))) (hgw : ∀ k, k < 5 → gw k = σ.F k 2) (ez : h (G.2.2 0) = some (0, oArr 0 (fun _ => none))) (hsl : ∃ j, j < 1000 ∧ σ.sl = nI j) (hb : bc1 = bc + 1) (hs : bs1 = bs + 6) {y14 y15 y16 y17 y18 : Option Value} (kk : ∀ (h2 : AH) (A2 : KA) (τ : NS) (u2 u3 u4 u6 : Int32) (z14 z15 z16 z17 z18 : Option Value), ST σ τ f → u2 = τ.ms → u3 = τ.sl → u4 = τ.off → u6 = τ.di → KelW G h2 1 ke A2 τ → h2 wa = some (3, .inl (0, 5, .inl gw)) → h2 (G.2.2 0) = some (0, oArr 0 (fun _ => none)) → AW p l e room_1 s m #[.ref b] below meth c Q s G 19 1 h0 h2 bc bs 1161 [some (.ref b), some (.ref ke), some (.int (u2)), some (.int (u3)), some (.int (u4)), some (.int (σ.o 4)), some (.int (u6)), some (.ref wa), some (.int t9), some (.int x9), some (.int (nI f)), some (.int (σ.F f 3)), some (.int (σ.F f 4)), some (.int σ.mi), z14, z15, z16, z17, z18] []) : AW p l e room_1 s m #[.ref b] below meth c Q s G 19 1 h0 h bc1 bs1 539 [some (.ref b), some (.ref ke), some (.int (σ.ms)), some (.int (σ.sl)), some (.int (σ.off)), some (.int (σ.o 4)), some (.int (σ.di)), some (.ref wa), some (.int t9), some (.int x9), some (.int (nI f)), some (.int (σ.F f 3)), some (.int (σ.F f 4)), some (.int σ.mi), y14, y15, y16, y17, y18] [] := by
  have hn12 : σ.nf = 5 := hL.2.2.1
  have hnp8 := hL.1.1.1
  have hnp2 := hL.2.2.2
  have hns := hL.1.1.2.1
  refine aw_ald1 X dL_law_539 rfl ?_
  refine aw_bipush X (15) dL_law_540 (by decide) rfl ?_
  refine aw_callV X dL_law_542 rfl (r_man X.1 w (by decide) (man15 _)) cmX6_many ml_L_40 rfl w.1 rfl rfl (Nat.le_of_ble_eq_true rfl) ⟨Nat.le_of_ble_eq_true rfl, Nat.le_of_ble_eq_true rfl⟩ (aw_rs ?_)
  by_cases hp : awP σ f
  · have hR := (away_is hL hf5).1 hp
    obtain ⟨st, ec, n0, e09⟩ := away_st hL hf5 hp
    refine aw_ist14 X dL_law_545 rfl (by decide) rfl ?_
    refine aw_ald1 X dL_law_547 rfl ?_
    refine aw_iconst X (3) dL_law_548 (by decide) rfl ?_
    refine aw_ild10 X dL_law_549 rfl ?_
    refine AW.mono (bc2 := bc + 1) (bs2 := bs + 6) (Nat.le_of_eq hb.symm) (Nat.le_of_eq hs.symm) ?_
    refine aw_callSH X dL_law_551 rfl (k_done_away X.1 (by decide) w (nI f) (Or.inl (r1_0 hR))) cmhL_done ml_L_48 rfl rfl (Nat.le_of_ble_eq_true rfl) ⟨Nat.le_of_ble_eq_true rfl, Nat.le_of_ble_eq_true rfl⟩ (fun r h2 hq hf => ?_)
    obtain ⟨rfl, A2, w2⟩ := hq.at0 hR
    have hwa2 := hf.1 _ _ _ hwa (by decide)
    have ez2 := hf.1 _ _ _ ez (by decide)
    refine aw_ist15 X dL_law_554 rfl (by decide) rfl ?_
    refine aw_ild15 X dL_law_556 rfl ?_
    refine aw_if_lt (n2 := 588) X dL_law_558 rfl rfl (fun c558 => absurd c558 n0) (fun c558 => ?_)
    refine aw_ild15 X dL_law_561 rfl ?_
    refine aw_ild14 X dL_law_563 rfl ?_
    refine aw_iconst X (1) dL_law_565 (by decide) rfl ?_
    refine aw_isub X dL_law_566 rfl ?_
    refine aw_icmp_ne (n2 := 604) X dL_law_567 rfl rfl (fun c567 => absurd ec c567) (fun c567 => ?_)
    refine aw_ild11 X dL_law_570 rfl ?_
    refine aw_iconst X (2) dL_law_572 (by decide) rfl ?_
    refine aw_icmp_lt (n2 := 604) X dL_law_573 rfl rfl (fun c573 => absurd c573 (by rcases hp.1 with z | z <;> rw [z] <;> decide)) (fun c573 => ?_)
    refine aw_ild12 X dL_law_576 rfl ?_
    refine aw_if_eq (n2 := 588) X dL_law_578 rfl rfl (fun c578 => ?_) (fun c578 => ?_)
    · refine aw_ild15 X dL_law_588 rfl ?_
      refine aw_if_ge (n2 := 1161) X dL_law_590 rfl rfl (fun c590 => ?_) (fun c590 => absurd (Int32.not_lt.mp n0) c590)
      exact kk h2 A2 _ _ _ _ _ _ _ _ _ _ st rfl rfl rfl rfl w2 hwa2 ez2
    · refine aw_ild12 X dL_law_581 rfl ?_
      refine aw_bipush X (9) dL_law_583 (by decide) rfl ?_
      refine aw_icmp_ne (n2 := 604) X dL_law_585 rfl rfl (fun c585 => absurd (e09.resolve_left c578) c585) (fun c585 => ?_)
      refine aw_ild15 X dL_law_588 rfl ?_
      refine aw_if_ge (n2 := 1161) X dL_law_590 rfl rfl (fun c590 => ?_) (fun c590 => absurd (Int32.not_lt.mp n0) c590)
      exact kk h2 A2 _ _ _ _ _ _ _ _ _ _ st rfl rfl rfl rfl w2 hwa2 ez2
  · have hR := (away_is hL hf5).2 hp
    refine aw_ist14 X dL_law_545 rfl (by decide) rfl ?_
    refine aw_ald1 X dL_law_547 rfl ?_
    refine aw_iconst X (3) dL_law_548 (by decide) rfl ?_
    refine aw_ild10 X dL_law_549 rfl ?_
    refine AW.mono (bc2 := bc + 1) (bs2 := bs + 6) (Nat.le_of_eq hb.symm) (Nat.le_of_eq hs.symm) ?_
    refine aw_callSH X dL_law_551 rfl (k_done_away X.1 (by decide) w (nI f) (Or.inr (r1_k hR))) cmhL_done ml_L_48 rfl rfl (Nat.le_of_ble_eq_true rfl) ⟨Nat.le_of_ble_eq_true rfl, Nat.le_of_ble_eq_true rfl⟩ (fun r h2 hq hf => ?_)
    obtain ⟨rfl, A2, w2⟩ := hq.at1 hR
    have hwa2 := hf.1 _ _ _ hwa (by decide)
    have ez2 := hf.1 _ _ _ ez (by decide)
    refine aw_ist15 X dL_law_554 rfl (by decide) rfl ?_
    refine aw_ild15 X dL_law_556 rfl ?_
    refine aw_if_lt (n2 := 588) X dL_law_558 rfl rfl (fun c558 => ?_) (fun c558 => absurd (by decide) c558)
    refine aw_ild15 X dL_law_588 rfl ?_
    refine aw_if_ge (n2 := 1161) X dL_law_590 rfl rfl (fun c590 => absurd c590 (by decide)) (fun c590 => ?_)
    refine aw_ald1 X dL_law_593 rfl ?_
    refine aw_bipush X (15) dL_law_594 (by decide) rfl ?_
    refine aw_callV X dL_law_596 rfl (r_man X.1 w2 (by decide) (man15 _)) cmX6_many ml_L_40 rfl w2.1 rfl rfl (Nat.le_of_ble_eq_true rfl) ⟨Nat.le_of_ble_eq_true rfl, Nat.le_of_ble_eq_true rfl⟩ (aw_rs ?_)
    refine aw_ild14 X dL_law_599 rfl ?_
    refine aw_icmp_eq (n2 := 1161) X dL_law_601 rfl rfl (fun c601 => ?_) (fun c601 => absurd rfl c601)
    exact kk h2 A2 σ _ _ _ _ _ _ _ _ _ (ST.id hL) rfl rfl rfl rfl w2 hwa2 ez2

set_option maxHeartbeats 4000000 in
set_option maxRecDepth 100000 in
theorem ca_tap {p : Program} {l : Launch} {e : Env} {s : State} {m : MethodId} {below : List Frame} {meth : Method} {c : Code} {Q : State → Prop} {a0 : Array Value} {G : GG} {h0 h : AH} {b ke wa bc bs bc1 bs1 f : Nat} {A : KA} {σ : NS} {t9 x9 : Int32} {gw : Nat → Int32} (X : MX p l s m meth c s a0 G cL_law "KelirnightLaw" 19) (w : KelW G h 1 ke A σ) (hL : LQ σ) (hf5 : f < 5) (hwa : h wa = some (3, .inl (0, 5, .inl gw))) (hgw : ∀ k, k < 5 → gw k = σ.F k 2) (ez : h (G.2.2 0) = some (0, oArr 0 (fun _ => none))) (hsl : ∃ j, j < 1000 ∧ σ.sl = nI j) (hb : bc1 = bc + 1) (hs : bs1 = bs + 6) {y14 y15 y16 y17 y18 : Option Value} (kk : ∀ (h2 : AH) (A2 : KA) (τ : NS) (u2 u3 u4 u6 : Int32) (z14 z15 z16 z17 z18 : Option Value), ST σ τ f → u2 = τ.ms → u3 = τ.sl → u4 = τ.off → u6 = τ.di → KelW G h2 1 ke A2 τ → h2 wa = some (3, .inl (0, 5, .inl gw)) → h2 (G.2.2 0) = some (0, oArr 0 (fun _ => none)) → AW p l e room_1 s m #[.ref b] below meth c Q s G 19 1 h0 h2 bc bs 1161 [some (.ref b), some (.ref ke), some (.int (u2)), some (.int (u3)), some (.int (u4)), some (.int (σ.o 4)), some (.int (u6)), some (.ref wa), some (.int t9), some (.int x9), some (.int (nI f)), some (.int (σ.F f 3)), some (.int (σ.F f 4)), some (.int σ.mi), z14, z15, z16, z17, z18] []) : AW p l e room_1 s m #[.ref b] below meth c Q s G 19 1 h0 h bc1 bs1 606 [some (.ref b), some (.ref ke), some (.int (σ.ms)), some (.int (σ.sl)), some (.int (σ.off)), some (.int (σ.o 4)), some (.int (σ.di)), some (.ref wa), some (.int t9), some (.int x9), some (.int (nI f)), some (.int (σ.F f 3)), some (.int (σ.F f 4)), some (.int σ.mi), y14, y15, y16, y17, y18] [] := by
  have hn12 : σ.nf = 5 := hL.2.2.1
  have hnp8 := hL.1.1.1
  have hnp2 := hL.2.2.2
  have hns := hL.1.1.2.1
  refine aw_ild9 X dL_law_606 rfl ?_
  refine aw_iconst X (5) dL_law_608 (by decide) rfl ?_
  refine aw_ishr X dL_law_609 rfl ?_
  refine aw_iconst X (4) dL_law_610 (by decide) rfl ?_
  refine aw_callS X dL_law_611 rfl (k_below X.1 _ (N := 4) rfl (by decide) (by decide)) cmL_below ml_L_18 rfl rfl (Nat.le_of_ble_eq_true rfl) ⟨Nat.le_of_ble_eq_true rfl, Nat.le_of_ble_eq_true rfl⟩ (fun r h2 hq hf => ?_)
  obtain ⟨q9, hq9, rfl, rfl⟩ := hq
  by_cases hz : q9 = 0 <;> by_cases hp : tpP σ q9
  · have p : (if q9 = 0 then onS σ ≠ -1 ∧ σ.o 0 = -1 else σ.o 0 ≠ -1) := hp
    rw [if_pos hz] at p
    obtain ⟨i9, hi9, hon⟩ := (on_cases σ).resolve_left p.1
    refine aw_ist14 X dL_law_614 rfl (by decide) rfl ?_
    refine aw_ild14 X dL_law_616 rfl ?_
    refine aw_if_ne (n2 := 646) X dL_law_618 rfl rfl (fun c618 => absurd (by rw [hz]; rfl) c618) (fun c618 => ?_)
    refine aw_ald1 X dL_law_621 rfl ?_
    refine aw_iconst X (0) dL_law_622 (by decide) rfl ?_
    refine aw_callV X dL_law_623 rfl (r_snd X.1 w (by decide) (ov0 _)) cmX6_sound ml_L_69 rfl w.1 rfl rfl (Nat.le_of_ble_eq_true rfl) ⟨Nat.le_of_ble_eq_true rfl, Nat.le_of_ble_eq_true rfl⟩ (aw_rs ?_)
    refine aw_if_ge (n2 := 642) X dL_law_626 rfl rfl (fun c626 => absurd c626 (by rw [p.2]; decide)) (fun c626 => ?_)
    refine aw_ald1 X dL_law_629 rfl ?_
    refine aw_bipush X (6) dL_law_630 (by decide) rfl ?_
    refine aw_callV X dL_law_632 rfl (r_man X.1 w (by decide) (man6 _)) cmX6_many ml_L_40 rfl w.1 rfl rfl (Nat.le_of_ble_eq_true rfl) ⟨Nat.le_of_ble_eq_true rfl, Nat.le_of_ble_eq_true rfl⟩ (aw_rs ?_)
    refine aw_if_lt (n2 := 642) X dL_law_635 rfl rfl (fun c635 => absurd c635 (fun z => p.1 ((on_neg hL.1).mp z))) (fun c635 => ?_)
    refine aw_iconst X (1) dL_law_638 (by decide) rfl ?_
    refine aw_goto (n := 659) X dL_law_639 rfl ?_
    refine aw_ist15 X dL_law_659 rfl (by decide) rfl ?_
    refine aw_ild15 X dL_law_661 rfl ?_
    refine aw_if_ne (n2 := 669) X dL_law_663 rfl rfl (fun c663 => ?_) (fun c663 => absurd c663 (by decide))
    refine aw_ald1 X dL_law_669 rfl ?_
    refine aw_ild14 X dL_law_670 rfl ?_
    refine AW.mono (bc2 := bc + 1) (bs2 := bs + 6) (Nat.le_of_eq hb.symm) (Nat.le_of_eq hs.symm) ?_
    refine aw_callVX X dL_law_672 rfl (k_X6_tap X.1 (by decide) w (nI q9)) cmX6_tap ml_L_72 rfl w.1 rfl rfl (Nat.le_of_ble_eq_true rfl) ⟨Nat.le_of_ble_eq_true rfl, Nat.le_of_ble_eq_true rfl⟩ (fun r h2 hq hf => ?_) (fun E h2 hq hf => absurd (r1_0 ((tap_is hq9).1 hp)) hq.2.1)
    obtain ⟨rfl, A2, w2⟩ := hq.at0 ((tap_is hq9).1 hp)
    have hwa2 := hf.1 _ _ _ hwa (by decide)
    have ez2 := hf.1 _ _ _ ez (by decide)
    have st := (tap_st (f := f) hL hq9).1 hp
    rw [show tpS σ q9 = σ.wO (obeg σ.o (σ.S (iN (onS σ)) 1)) from if_pos hz] at w2 st
    refine aw_ild15 X dL_law_675 rfl ?_
    refine aw_icmp_ne (n2 := 729) X dL_law_677 rfl rfl (fun c677 => absurd rfl c677) (fun c677 => ?_)
    refine aw_ild15 X dL_law_680 rfl ?_
    refine aw_if_eq (n2 := 700) X dL_law_682 rfl rfl (fun c682 => absurd c682 (by decide)) (fun c682 => ?_)
    refine aw_ild14 X dL_law_685 rfl ?_
    refine aw_if_le (n2 := 700) X dL_law_687 rfl rfl (fun c687 => ?_) (fun c687 => absurd (by rw [hz]; decide) c687)
    refine aw_ild15 X dL_law_700 rfl ?_
    refine aw_if_eq (n2 := 1161) X dL_law_702 rfl rfl (fun c702 => absurd c702 (by decide)) (fun c702 => ?_)
    refine aw_ild14 X dL_law_705 rfl ?_
    refine aw_if_ne (n2 := 1161) X dL_law_707 rfl rfl (fun c707 => absurd (by rw [hz]; rfl) c707) (fun c707 => ?_)
    refine aw_ald1 X dL_law_710 rfl ?_
    refine aw_iconst X (0) dL_law_711 (by decide) rfl ?_
    refine aw_callV X dL_law_712 rfl (r_snd X.1 w2 (by decide) (ov0 _)) cmX6_sound ml_L_69 rfl w2.1 rfl rfl (Nat.le_of_ble_eq_true rfl) ⟨Nat.le_of_ble_eq_true rfl, Nat.le_of_ble_eq_true rfl⟩ (aw_rs ?_)
    refine aw_ald1 X dL_law_715 rfl ?_
    refine aw_ald1 X dL_law_716 rfl ?_
    refine aw_bipush X (6) dL_law_717 (by decide) rfl ?_
    refine aw_callV X dL_law_719 rfl (r_man X.1 w2 (by decide) (man6 _)) cmX6_many ml_L_40 rfl w2.1 rfl rfl (Nat.le_of_ble_eq_true rfl) ⟨Nat.le_of_ble_eq_true rfl, Nat.le_of_ble_eq_true rfl⟩ (aw_rs ?_)
    refine aw_iconst X (1) dL_law_722 (by decide) rfl ?_
    refine aw_callV X dL_law_723 rfl (r_scn X.1 w2 (show onS (σ.wO (obeg σ.o (σ.S (iN (onS σ)) 1))) = nI i9 from hon) hi9 (by decide) (sv1 _ _)) cmX6_ofScene ml_L_76 rfl w2.1 rfl rfl (Nat.le_of_ble_eq_true rfl) ⟨Nat.le_of_ble_eq_true rfl, Nat.le_of_ble_eq_true rfl⟩ (aw_rs ?_)
    refine aw_icmp_eq (n2 := 1161) X dL_law_726 rfl rfl (fun c726 => ?_) (fun c726 => absurd (show obeg σ.o (σ.S (iN (onS σ)) 1) 0 = σ.S i9 1 from by rw [hon, iN_nI (by omega)]; rfl) c726)
    exact kk h2 A2 _ _ _ _ _ _ _ _ _ _ st rfl rfl rfl rfl w2 hwa2 ez2
  · skip
    refine aw_ist14 X dL_law_614 rfl (by decide) rfl ?_
    refine aw_ild14 X dL_law_616 rfl ?_
    refine aw_if_ne (n2 := 646) X dL_law_618 rfl rfl (fun c618 => absurd (by rw [hz]; rfl) c618) (fun c618 => ?_)
    refine aw_ald1 X dL_law_621 rfl ?_
    refine aw_iconst X (0) dL_law_622 (by decide) rfl ?_
    refine aw_callV X dL_law_623 rfl (r_snd X.1 w (by decide) (ov0 _)) cmX6_sound ml_L_69 rfl w.1 rfl rfl (Nat.le_of_ble_eq_true rfl) ⟨Nat.le_of_ble_eq_true rfl, Nat.le_of_ble_eq_true rfl⟩ (aw_rs ?_)
    refine aw_if_ge (n2 := 642) X dL_law_626 rfl rfl (fun c626 => ?_) (fun c626 => ?_)
    · refine aw_iconst X (0) dL_law_642 (by decide) rfl ?_
      refine aw_goto (n := 659) X dL_law_643 rfl ?_
      refine aw_ist15 X dL_law_659 rfl (by decide) rfl ?_
      refine aw_ild15 X dL_law_661 rfl ?_
      refine aw_if_ne (n2 := 669) X dL_law_663 rfl rfl (fun c663 => absurd rfl c663) (fun c663 => ?_)
      refine aw_iinc2 X (1) dL_law_666 (by decide) rfl (by decide) rfl ?_
      refine aw_ald1 X dL_law_669 rfl ?_
      refine aw_ild14 X dL_law_670 rfl ?_
      refine AW.mono (bc2 := bc + 1) (bs2 := bs + 6) (Nat.le_of_eq hb.symm) (Nat.le_of_eq hs.symm) ?_
      refine aw_callVX X dL_law_672 rfl (k_X6_tap X.1 (by decide) w (nI q9)) cmX6_tap ml_L_72 rfl w.1 rfl rfl (Nat.le_of_ble_eq_true rfl) ⟨Nat.le_of_ble_eq_true rfl, Nat.le_of_ble_eq_true rfl⟩ (fun r h2 hq hf => ?_) (fun E h2 hq hf => absurd (r1_0 ((tap_is hq9).2 hp)) hq.2.1)
      obtain ⟨rfl, A2, w2⟩ := hq.at0 ((tap_is hq9).2 hp)
      have hwa2 := hf.1 _ _ _ hwa (by decide)
      have ez2 := hf.1 _ _ _ ez (by decide)
      have st := (tap_st (f := f) hL hq9).2
      refine aw_ild15 X dL_law_675 rfl ?_
      refine aw_icmp_ne (n2 := 729) X dL_law_677 rfl rfl (fun c677 => absurd rfl c677) (fun c677 => ?_)
      refine aw_ild15 X dL_law_680 rfl ?_
      refine aw_if_eq (n2 := 700) X dL_law_682 rfl rfl (fun c682 => ?_) (fun c682 => absurd rfl c682)
      refine aw_ild15 X dL_law_700 rfl ?_
      refine aw_if_eq (n2 := 1161) X dL_law_702 rfl rfl (fun c702 => ?_) (fun c702 => absurd rfl c702)
      exact kk h2 A2 _ _ _ _ _ _ _ _ _ _ st rfl rfl rfl rfl w2 hwa2 ez2
    · refine aw_ald1 X dL_law_629 rfl ?_
      refine aw_bipush X (6) dL_law_630 (by decide) rfl ?_
      refine aw_callV X dL_law_632 rfl (r_man X.1 w (by decide) (man6 _)) cmX6_many ml_L_40 rfl w.1 rfl rfl (Nat.le_of_ble_eq_true rfl) ⟨Nat.le_of_ble_eq_true rfl, Nat.le_of_ble_eq_true rfl⟩ (aw_rs ?_)
      refine aw_if_lt (n2 := 642) X dL_law_635 rfl rfl (fun c635 => ?_) (fun c635 => ?_)
      · refine aw_iconst X (0) dL_law_642 (by decide) rfl ?_
        refine aw_goto (n := 659) X dL_law_643 rfl ?_
        refine aw_ist15 X dL_law_659 rfl (by decide) rfl ?_
        refine aw_ild15 X dL_law_661 rfl ?_
        refine aw_if_ne (n2 := 669) X dL_law_663 rfl rfl (fun c663 => absurd rfl c663) (fun c663 => ?_)
        refine aw_iinc2 X (1) dL_law_666 (by decide) rfl (by decide) rfl ?_
        refine aw_ald1 X dL_law_669 rfl ?_
        refine aw_ild14 X dL_law_670 rfl ?_
        refine AW.mono (bc2 := bc + 1) (bs2 := bs + 6) (Nat.le_of_eq hb.symm) (Nat.le_of_eq hs.symm) ?_
        refine aw_callVX X dL_law_672 rfl (k_X6_tap X.1 (by decide) w (nI q9)) cmX6_tap ml_L_72 rfl w.1 rfl rfl (Nat.le_of_ble_eq_true rfl) ⟨Nat.le_of_ble_eq_true rfl, Nat.le_of_ble_eq_true rfl⟩ (fun r h2 hq hf => ?_) (fun E h2 hq hf => absurd (r1_0 ((tap_is hq9).2 hp)) hq.2.1)
        obtain ⟨rfl, A2, w2⟩ := hq.at0 ((tap_is hq9).2 hp)
        have hwa2 := hf.1 _ _ _ hwa (by decide)
        have ez2 := hf.1 _ _ _ ez (by decide)
        have st := (tap_st (f := f) hL hq9).2
        refine aw_ild15 X dL_law_675 rfl ?_
        refine aw_icmp_ne (n2 := 729) X dL_law_677 rfl rfl (fun c677 => absurd rfl c677) (fun c677 => ?_)
        refine aw_ild15 X dL_law_680 rfl ?_
        refine aw_if_eq (n2 := 700) X dL_law_682 rfl rfl (fun c682 => ?_) (fun c682 => absurd rfl c682)
        refine aw_ild15 X dL_law_700 rfl ?_
        refine aw_if_eq (n2 := 1161) X dL_law_702 rfl rfl (fun c702 => ?_) (fun c702 => absurd rfl c702)
        exact kk h2 A2 _ _ _ _ _ _ _ _ _ _ st rfl rfl rfl rfl w2 hwa2 ez2
      · exact absurd (show (if q9 = 0 then onS σ ≠ -1 ∧ σ.o 0 = -1 else σ.o 0 ≠ -1) from by rw [if_pos hz]; exact ⟨fun z => c635 ((on_neg hL.1).mpr z), (o_neg hL.1).mp (Int32.not_le.mp c626)⟩) hp
  · have p : (if q9 = 0 then onS σ ≠ -1 ∧ σ.o 0 = -1 else σ.o 0 ≠ -1) := hp
    rw [if_neg hz] at p
    refine aw_ist14 X dL_law_614 rfl (by decide) rfl ?_
    refine aw_ild14 X dL_law_616 rfl ?_
    refine aw_if_ne (n2 := 646) X dL_law_618 rfl rfl (fun c618 => ?_) (fun c618 => absurd c618 (nI_ne0 (by omega) (by omega)))
    refine aw_ald1 X dL_law_646 rfl ?_
    refine aw_iconst X (0) dL_law_647 (by decide) rfl ?_
    refine aw_callV X dL_law_648 rfl (r_snd X.1 w (by decide) (ov0 _)) cmX6_sound ml_L_69 rfl w.1 rfl rfl (Nat.le_of_ble_eq_true rfl) ⟨Nat.le_of_ble_eq_true rfl, Nat.le_of_ble_eq_true rfl⟩ (aw_rs ?_)
    refine aw_if_lt (n2 := 658) X dL_law_651 rfl rfl (fun c651 => absurd c651 (fun z => p ((o_neg hL.1).mp z))) (fun c651 => ?_)
    refine aw_iconst X (1) dL_law_654 (by decide) rfl ?_
    refine aw_goto (n := 659) X dL_law_655 rfl ?_
    refine aw_ist15 X dL_law_659 rfl (by decide) rfl ?_
    refine aw_ild15 X dL_law_661 rfl ?_
    refine aw_if_ne (n2 := 669) X dL_law_663 rfl rfl (fun c663 => ?_) (fun c663 => absurd c663 (by decide))
    refine aw_ald1 X dL_law_669 rfl ?_
    refine aw_ild14 X dL_law_670 rfl ?_
    refine AW.mono (bc2 := bc + 1) (bs2 := bs + 6) (Nat.le_of_eq hb.symm) (Nat.le_of_eq hs.symm) ?_
    refine aw_callVX X dL_law_672 rfl (k_X6_tap X.1 (by decide) w (nI q9)) cmX6_tap ml_L_72 rfl w.1 rfl rfl (Nat.le_of_ble_eq_true rfl) ⟨Nat.le_of_ble_eq_true rfl, Nat.le_of_ble_eq_true rfl⟩ (fun r h2 hq hf => ?_) (fun E h2 hq hf => absurd (r1_0 ((tap_is hq9).1 hp)) hq.2.1)
    obtain ⟨rfl, A2, w2⟩ := hq.at0 ((tap_is hq9).1 hp)
    have hwa2 := hf.1 _ _ _ hwa (by decide)
    have ez2 := hf.1 _ _ _ ez (by decide)
    have st := (tap_st (f := f) hL hq9).1 hp
    rw [show tpS σ q9 = σ.wO (upd σ.o 3 (nI q9)) from if_neg hz] at w2 st
    refine aw_ild15 X dL_law_675 rfl ?_
    refine aw_icmp_ne (n2 := 729) X dL_law_677 rfl rfl (fun c677 => absurd rfl c677) (fun c677 => ?_)
    refine aw_ild15 X dL_law_680 rfl ?_
    refine aw_if_eq (n2 := 700) X dL_law_682 rfl rfl (fun c682 => absurd c682 (by decide)) (fun c682 => ?_)
    refine aw_ild14 X dL_law_685 rfl ?_
    refine aw_if_le (n2 := 700) X dL_law_687 rfl rfl (fun c687 => absurd c687 (nI_nle (by omega) (by omega))) (fun c687 => ?_)
    refine aw_ald1 X dL_law_690 rfl ?_
    refine aw_iconst X (3) dL_law_691 (by decide) rfl ?_
    refine aw_callV X dL_law_692 rfl (r_snd X.1 w2 (by decide) (ov3 _)) cmX6_sound ml_L_69 rfl w2.1 rfl rfl (Nat.le_of_ble_eq_true rfl) ⟨Nat.le_of_ble_eq_true rfl, Nat.le_of_ble_eq_true rfl⟩ (aw_rs ?_)
    refine aw_ild14 X dL_law_695 rfl ?_
    refine aw_icmp_ne (n2 := 729) X dL_law_697 rfl rfl (fun c697 => absurd rfl c697) (fun c697 => ?_)
    refine aw_ild15 X dL_law_700 rfl ?_
    refine aw_if_eq (n2 := 1161) X dL_law_702 rfl rfl (fun c702 => absurd c702 (by decide)) (fun c702 => ?_)
    refine aw_ild14 X dL_law_705 rfl ?_
    refine aw_if_ne (n2 := 1161) X dL_law_707 rfl rfl (fun c707 => ?_) (fun c707 => absurd c707 (nI_ne0 (by omega) (by omega)))
    exact kk h2 A2 _ _ _ _ _ _ _ _ _ _ st rfl rfl rfl rfl w2 hwa2 ez2
  · skip
    refine aw_ist14 X dL_law_614 rfl (by decide) rfl ?_
    refine aw_ild14 X dL_law_616 rfl ?_
    refine aw_if_ne (n2 := 646) X dL_law_618 rfl rfl (fun c618 => ?_) (fun c618 => absurd c618 (nI_ne0 (by omega) (by omega)))
    refine aw_ald1 X dL_law_646 rfl ?_
    refine aw_iconst X (0) dL_law_647 (by decide) rfl ?_
    refine aw_callV X dL_law_648 rfl (r_snd X.1 w (by decide) (ov0 _)) cmX6_sound ml_L_69 rfl w.1 rfl rfl (Nat.le_of_ble_eq_true rfl) ⟨Nat.le_of_ble_eq_true rfl, Nat.le_of_ble_eq_true rfl⟩ (aw_rs ?_)
    refine aw_if_lt (n2 := 658) X dL_law_651 rfl rfl (fun c651 => ?_) (fun c651 => ?_)
    · refine aw_iconst X (0) dL_law_658 (by decide) rfl ?_
      refine aw_ist15 X dL_law_659 rfl (by decide) rfl ?_
      refine aw_ild15 X dL_law_661 rfl ?_
      refine aw_if_ne (n2 := 669) X dL_law_663 rfl rfl (fun c663 => absurd rfl c663) (fun c663 => ?_)
      refine aw_iinc2 X (1) dL_law_666 (by decide) rfl (by decide) rfl ?_
      refine aw_ald1 X dL_law_669 rfl ?_
      refine aw_ild14 X dL_law_670 rfl ?_
      refine AW.mono (bc2 := bc + 1) (bs2 := bs + 6) (Nat.le_of_eq hb.symm) (Nat.le_of_eq hs.symm) ?_
      refine aw_callVX X dL_law_672 rfl (k_X6_tap X.1 (by decide) w (nI q9)) cmX6_tap ml_L_72 rfl w.1 rfl rfl (Nat.le_of_ble_eq_true rfl) ⟨Nat.le_of_ble_eq_true rfl, Nat.le_of_ble_eq_true rfl⟩ (fun r h2 hq hf => ?_) (fun E h2 hq hf => absurd (r1_0 ((tap_is hq9).2 hp)) hq.2.1)
      obtain ⟨rfl, A2, w2⟩ := hq.at0 ((tap_is hq9).2 hp)
      have hwa2 := hf.1 _ _ _ hwa (by decide)
      have ez2 := hf.1 _ _ _ ez (by decide)
      have st := (tap_st (f := f) hL hq9).2
      refine aw_ild15 X dL_law_675 rfl ?_
      refine aw_icmp_ne (n2 := 729) X dL_law_677 rfl rfl (fun c677 => absurd rfl c677) (fun c677 => ?_)
      refine aw_ild15 X dL_law_680 rfl ?_
      refine aw_if_eq (n2 := 700) X dL_law_682 rfl rfl (fun c682 => ?_) (fun c682 => absurd rfl c682)
      refine aw_ild15 X dL_law_700 rfl ?_
      refine aw_if_eq (n2 := 1161) X dL_law_702 rfl rfl (fun c702 => ?_) (fun c702 => absurd rfl c702)
      exact kk h2 A2 _ _ _ _ _ _ _ _ _ _ st rfl rfl rfl rfl w2 hwa2 ez2
    · exact absurd (show (if q9 = 0 then onS σ ≠ -1 ∧ σ.o 0 = -1 else σ.o 0 ≠ -1) from by rw [if_neg hz]; exact fun z => c651 ((o_neg hL.1).mpr z)) hp

set_option maxHeartbeats 4000000 in
set_option maxRecDepth 100000 in
theorem ca_joke {p : Program} {l : Launch} {e : Env} {s : State} {m : MethodId} {below : List Frame} {meth : Method} {c : Code} {Q : State → Prop} {a0 : Array Value} {G : GG} {h0 h : AH} {b ke wa bc bs bc1 bs1 f : Nat} {A : KA} {σ : NS} {t9 x9 : Int32} {gw : Nat → Int32} (X : MX p l s m meth c s a0 G cL_law "KelirnightLaw" 19) (w : KelW G h 1 ke A σ) (hL : LQ σ) (hf5 : f < 5) (hwa : h wa = some (3, .inl (0, 5, .inl gw))) (hgw : ∀ k, k < 5 → gw k = σ.F k 2) (ez : h (G.2.2 0) = some (0, oArr 0 (fun _ => none))) (hsl : ∃ j, j < 1000 ∧ σ.sl = nI j) (hb : bc1 = bc + 1) (hs : bs1 = bs + 6) {y14 y15 y16 y17 y18 : Option Value} (kk : ∀ (h2 : AH) (A2 : KA) (τ : NS) (u2 u3 u4 u6 : Int32) (z14 z15 z16 z17 z18 : Option Value), ST σ τ f → u2 = τ.ms → u3 = τ.sl → u4 = τ.off → u6 = τ.di → KelW G h2 1 ke A2 τ → h2 wa = some (3, .inl (0, 5, .inl gw)) → h2 (G.2.2 0) = some (0, oArr 0 (fun _ => none)) → AW p l e room_1 s m #[.ref b] below meth c Q s G 19 1 h0 h2 bc bs 1161 [some (.ref b), some (.ref ke), some (.int (u2)), some (.int (u3)), some (.int (u4)), some (.int (σ.o 4)), some (.int (u6)), some (.ref wa), some (.int t9), some (.int x9), some (.int (nI f)), some (.int (σ.F f 3)), some (.int (σ.F f 4)), some (.int σ.mi), z14, z15, z16, z17, z18] []) : AW p l e room_1 s m #[.ref b] below meth c Q s G 19 1 h0 h bc1 bs1 894 [some (.ref b), some (.ref ke), some (.int (σ.ms)), some (.int (σ.sl)), some (.int (σ.off)), some (.int (σ.o 4)), some (.int (σ.di)), some (.ref wa), some (.int t9), some (.int x9), some (.int (nI f)), some (.int (σ.F f 3)), some (.int (σ.F f 4)), some (.int σ.mi), y14, y15, y16, y17, y18] [] := by
  have hn12 : σ.nf = 5 := hL.2.2.1
  have hnp8 := hL.1.1.1
  have hnp2 := hL.2.2.2
  have hns := hL.1.1.2.1
  refine aw_ald1 X dL_law_894 rfl ?_
  refine aw_bipush X (10) dL_law_895 (by decide) rfl ?_
  refine aw_callV X dL_law_897 rfl (r_man X.1 w (by decide) (man10 _)) cmX6_many ml_L_40 rfl w.1 rfl rfl (Nat.le_of_ble_eq_true rfl) ⟨Nat.le_of_ble_eq_true rfl, Nat.le_of_ble_eq_true rfl⟩ (aw_rs ?_)
  refine aw_ist14 X dL_law_900 rfl (by decide) rfl ?_
  refine aw_ild9 X dL_law_902 rfl ?_
  refine aw_iconst X (3) dL_law_904 (by decide) rfl ?_
  refine aw_ishr X dL_law_905 rfl ?_
  refine aw_bipush X (10) dL_law_906 (by decide) rfl ?_
  refine aw_callS X dL_law_908 rfl (k_below X.1 _ (N := 10) rfl (by decide) (by decide)) cmL_below ml_L_18 rfl rfl (Nat.le_of_ble_eq_true rfl) ⟨Nat.le_of_ble_eq_true rfl, Nat.le_of_ble_eq_true rfl⟩ (fun r h2 hq hf => ?_)
  obtain ⟨q9, hq9, rfl, rfl⟩ := hq
  refine aw_ist15 X dL_law_911 rfl (by decide) rfl ?_
  refine aw_ild15 X dL_law_913 rfl ?_
  refine aw_ild14 X dL_law_915 rfl ?_
  refine aw_icmp_le (n2 := 923) X dL_law_917 rfl rfl (fun c917 => ?_) (fun c917 => ?_)
  · refine aw_ald1 X dL_law_923 rfl ?_
    refine aw_ild15 X dL_law_924 rfl ?_
    refine AW.mono (bc2 := bc + 1) (bs2 := bs + 6) (Nat.le_of_eq hb.symm) (Nat.le_of_eq hs.symm) ?_
    have hR := joke_is (σ := σ) hq9
    rw [if_pos c917] at hR
    refine aw_callVX X dL_law_926 rfl (k_X6_joke X.1 (by decide) w (nI q9)) cmX6_joke ml_L_83 rfl w.1 rfl rfl (Nat.le_of_ble_eq_true rfl) ⟨Nat.le_of_ble_eq_true rfl, Nat.le_of_ble_eq_true rfl⟩ (fun r h2 hq hf => ?_) (fun E h2 hq hf => absurd (r1_0 hR) hq.2.1)
    obtain ⟨rfl, A2, w2⟩ := hq.at0 hR
    have hwa2 := hf.1 _ _ _ hwa (by decide)
    have ez2 := hf.1 _ _ _ ez (by decide)
    have st := (joke_st (f := f) hL hq9).1 c917
    refine aw_ild15 X dL_law_929 rfl ?_
    refine aw_ild14 X dL_law_931 rfl ?_
    refine aw_icmp_le (n2 := 941) X dL_law_933 rfl rfl (fun c933 => ?_) (fun c933 => absurd c917 c933)
    refine aw_ild14 X dL_law_941 rfl ?_
    refine aw_ild15 X dL_law_943 rfl ?_
    refine aw_isub X dL_law_945 rfl ?_
    refine aw_icmp_ne (n2 := 975) X dL_law_946 rfl rfl (fun c946 => absurd rfl c946) (fun c946 => ?_)
    refine aw_ald1 X dL_law_949 rfl ?_
    refine aw_bipush X (10) dL_law_950 (by decide) rfl ?_
    refine aw_callV X dL_law_952 rfl (r_man X.1 w2 (by decide) (man10 _)) cmX6_many ml_L_40 rfl w2.1 rfl rfl (Nat.le_of_ble_eq_true rfl) ⟨Nat.le_of_ble_eq_true rfl, Nat.le_of_ble_eq_true rfl⟩ (aw_rs ?_)
    refine aw_ild15 X dL_law_955 rfl ?_
    refine aw_ild14 X dL_law_957 rfl ?_
    refine aw_icmp_le (n2 := 967) X dL_law_959 rfl rfl (fun c959 => ?_) (fun c959 => absurd c917 c959)
    refine aw_ild14 X dL_law_967 rfl ?_
    refine aw_ild15 X dL_law_969 rfl ?_
    refine aw_isub X dL_law_971 rfl ?_
    refine aw_icmp_eq (n2 := 1161) X dL_law_972 rfl rfl (fun c972 => ?_) (fun c972 => absurd rfl c972)
    exact kk h2 A2 _ _ _ _ _ _ _ _ _ _ st rfl rfl rfl rfl w2 hwa2 ez2
  · refine aw_iinc4 X (1) dL_law_920 (by decide) rfl (by decide) rfl ?_
    refine aw_ald1 X dL_law_923 rfl ?_
    refine aw_ild15 X dL_law_924 rfl ?_
    refine AW.mono (bc2 := bc + 1) (bs2 := bs + 6) (Nat.le_of_eq hb.symm) (Nat.le_of_eq hs.symm) ?_
    have hR := joke_is (σ := σ) hq9
    rw [if_neg c917] at hR
    refine aw_callVX X dL_law_926 rfl (k_X6_joke X.1 (by decide) w (nI q9)) cmX6_joke ml_L_83 rfl w.1 rfl rfl (Nat.le_of_ble_eq_true rfl) ⟨Nat.le_of_ble_eq_true rfl, Nat.le_of_ble_eq_true rfl⟩ (fun r h2 hq hf => ?_) (fun E h2 hq hf => absurd (r1_0 hR) hq.2.1)
    obtain ⟨rfl, A2, w2⟩ := hq.at0 hR
    have hwa2 := hf.1 _ _ _ hwa (by decide)
    have ez2 := hf.1 _ _ _ ez (by decide)
    have st := (joke_st (f := f) hL hq9).2 c917
    refine aw_ild15 X dL_law_929 rfl ?_
    refine aw_ild14 X dL_law_931 rfl ?_
    refine aw_icmp_le (n2 := 941) X dL_law_933 rfl rfl (fun c933 => absurd c933 c917) (fun c933 => ?_)
    refine aw_bipush X (-2) dL_law_936 (by decide) rfl ?_
    refine aw_goto (n := 946) X dL_law_938 rfl ?_
    refine aw_icmp_ne (n2 := 975) X dL_law_946 rfl rfl (fun c946 => absurd rfl c946) (fun c946 => ?_)
    refine aw_ald1 X dL_law_949 rfl ?_
    refine aw_bipush X (10) dL_law_950 (by decide) rfl ?_
    refine aw_callV X dL_law_952 rfl (r_man X.1 w2 (by decide) (man10 _)) cmX6_many ml_L_40 rfl w2.1 rfl rfl (Nat.le_of_ble_eq_true rfl) ⟨Nat.le_of_ble_eq_true rfl, Nat.le_of_ble_eq_true rfl⟩ (aw_rs ?_)
    refine aw_ild15 X dL_law_955 rfl ?_
    refine aw_ild14 X dL_law_957 rfl ?_
    refine aw_icmp_le (n2 := 967) X dL_law_959 rfl rfl (fun c959 => absurd c959 c917) (fun c959 => ?_)
    refine aw_ild14 X dL_law_962 rfl ?_
    refine aw_goto (n := 972) X dL_law_964 rfl ?_
    refine aw_icmp_eq (n2 := 1161) X dL_law_972 rfl rfl (fun c972 => ?_) (fun c972 => absurd rfl c972)
    exact kk h2 A2 _ _ _ _ _ _ _ _ _ _ st rfl rfl rfl rfl w2 hwa2 ez2

set_option maxHeartbeats 4000000 in
set_option maxRecDepth 100000 in
theorem ca_offer {p : Program} {l : Launch} {e : Env} {s : State} {m : MethodId} {below : List Frame} {meth : Method} {c : Code} {Q : State → Prop} {a0 : Array Value} {G : GG} {h0 h : AH} {b ke wa bc bs bc1 bs1 f : Nat} {A : KA} {σ : NS} {t9 x9 : Int32} {gw : Nat → Int32} (X : MX p l s m meth c s a0 G cL_law "KelirnightLaw" 19) (w : KelW G h 1 ke A σ) (hL : LQ σ) (hf5 : f < 5) (hwa : h wa = some (3, .inl (0, 5, .inl gw))) (hgw : ∀ k, k < 5 → gw k = σ.F k 2) (ez : h (G.2.2 0) = some (0, oArr 0 (fun _ => none))) (hsl : ∃ j, j < 1000 ∧ σ.sl = nI j) (hb : bc1 = bc + 1) (hs : bs1 = bs + 6) {y14 y15 y16 y17 y18 : Option Value} (kk : ∀ (h2 : AH) (A2 : KA) (τ : NS) (u2 u3 u4 u6 : Int32) (z14 z15 z16 z17 z18 : Option Value), ST σ τ f → u2 = τ.ms → u3 = τ.sl → u4 = τ.off → u6 = τ.di → KelW G h2 1 ke A2 τ → h2 wa = some (3, .inl (0, 5, .inl gw)) → h2 (G.2.2 0) = some (0, oArr 0 (fun _ => none)) → AW p l e room_1 s m #[.ref b] below meth c Q s G 19 1 h0 h2 bc bs 1161 [some (.ref b), some (.ref ke), some (.int (u2)), some (.int (u3)), some (.int (u4)), some (.int (σ.o 4)), some (.int (u6)), some (.ref wa), some (.int t9), some (.int x9), some (.int (nI f)), some (.int (σ.F f 3)), some (.int (σ.F f 4)), some (.int σ.mi), z14, z15, z16, z17, z18] []) : AW p l e room_1 s m #[.ref b] below meth c Q s G 19 1 h0 h bc1 bs1 977 [some (.ref b), some (.ref ke), some (.int (σ.ms)), some (.int (σ.sl)), some (.int (σ.off)), some (.int (σ.o 4)), some (.int (σ.di)), some (.ref wa), some (.int t9), some (.int x9), some (.int (nI f)), some (.int (σ.F f 3)), some (.int (σ.F f 4)), some (.int σ.mi), y14, y15, y16, y17, y18] [] := by
  have hn12 : σ.nf = 5 := hL.2.2.1
  have hnp8 := hL.1.1.1
  have hnp2 := hL.2.2.2
  have hns := hL.1.1.2.1
  refine aw_ald1 X dL_law_977 rfl ?_
  refine aw_bipush X (10) dL_law_978 (by decide) rfl ?_
  refine aw_callV X dL_law_980 rfl (r_man X.1 w (by decide) (man10 _)) cmX6_many ml_L_40 rfl w.1 rfl rfl (Nat.le_of_ble_eq_true rfl) ⟨Nat.le_of_ble_eq_true rfl, Nat.le_of_ble_eq_true rfl⟩ (aw_rs ?_)
  refine aw_ist14 X dL_law_983 rfl (by decide) rfl ?_
  refine aw_ild13 X dL_law_985 rfl ?_
  refine aw_sipush X (537) dL_law_987 (by decide) rfl ?_
  refine aw_icmp_le (n2 := 996) X dL_law_990 rfl rfl (fun c990 => ?_) (fun c990 => ?_)
  · obtain ⟨M, hM9, hM⟩ := mi_nat hL.1
    have hk3 : M + 3 ≤ 540 := by
      have h9 : nI M ≤ nI 537 := by rw [← hM]; exact c990
      have h8 := (nI_leI (by omega) (by decide)).mp h9
      omega
    refine aw_ald1 X dL_law_996 rfl ?_
    refine AW.mono (bc2 := bc + 1) (bs2 := bs + 6) (Nat.le_of_eq hb.symm) (Nat.le_of_eq hs.symm) ?_
    refine aw_callVX X dL_law_997 rfl (k_X6_offer X.1 (by decide) w hL.1.spd) cmX6_offer ml_L_86 rfl w.1 rfl rfl (Nat.le_of_ble_eq_true rfl) ⟨Nat.le_of_ble_eq_true rfl, Nat.le_of_ble_eq_true rfl⟩ (fun r h2 hq hf => ?_) (fun E h2 hq hf => absurd (r1_0 (offer_is hM hk3)) hq.2.1)
    obtain ⟨rfl, A2, w2⟩ := hq.at0 (offer_is hM hk3)
    have hwa2 := hf.1 _ _ _ hwa (by decide)
    have ez2 := hf.1 _ _ _ ez (by decide)
    obtain ⟨st, em⟩ := offer_st (f := f) hL hM hk3
    have pr := goN_pr 0 (ofS σ) 3
    obtain ⟨τ, hτ⟩ : ∃ τ, τ = goN 0 3 (ofS σ) := ⟨_, rfl⟩
    rw [← hτ] at w2 st em pr
    have em2 : σ.ms = τ.ms := (pr.2.2.2.2.2.2.2 4 (by decide) (by decide)).symm
    have em3 : σ.sl = τ.sl := (pr.2.2.2.2.2.2.2 5 (by decide) (by decide)).symm
    have em4 : σ.off = τ.off := (pr.2.2.2.2.2.2.2 6 (by decide) (by decide)).symm
    have em6 : σ.di = τ.di := pr.2.2.2.2.2.1.symm
    refine aw_bipush X (30) dL_law_1000 (by decide) rfl ?_
    refine aw_ild14 X dL_law_1002 rfl ?_
    refine aw_iconst X (5) dL_law_1004 (by decide) rfl ?_
    refine aw_iadd X dL_law_1005 rfl ?_
    refine aw_mmin X dL_law_1006 rfl ⟨ml_L_60, mm_min⟩ (Nat.le_of_ble_eq_true rfl) (Nat.le_of_ble_eq_true rfl) ?_
    refine aw_icmp_ne (n2 := 1024) X dL_law_1009 rfl rfl (fun c1009 => absurd rfl c1009) (fun c1009 => ?_)
    refine aw_ald1 X dL_law_1012 rfl ?_
    refine aw_iconst X (0) dL_law_1013 (by decide) rfl ?_
    refine aw_callV X dL_law_1014 rfl (r_man X.1 w2 (by decide) (man0 _)) cmX6_many ml_L_40 rfl w2.1 rfl rfl (Nat.le_of_ble_eq_true rfl) ⟨Nat.le_of_ble_eq_true rfl, Nat.le_of_ble_eq_true rfl⟩ (aw_rs ?_)
    refine aw_ild13 X dL_law_1017 rfl ?_
    refine aw_iconst X (3) dL_law_1019 (by decide) rfl ?_
    refine aw_iadd X dL_law_1020 rfl ?_
    refine aw_icmp_eq (n2 := 1161) X dL_law_1021 rfl rfl (fun c1021 => ?_) (fun c1021 => absurd (em.trans (by rw [hM]; exact (nI_add M 3).symm)) c1021)
    exact kk h2 A2 τ _ _ _ _ _ _ _ _ _ st em2 em3 em4 em6 w2 hwa2 ez2
  · refine aw_goto (n := 1161) X dL_law_993 rfl ?_
    refine AW.mono (bc2 := bc) (bs2 := bs) (by omega) (by omega) ?_
    exact kk h A σ _ _ _ _ _ _ _ _ _ (ST.id hL) rfl rfl rfl rfl w hwa ez

set_option maxHeartbeats 4000000 in
set_option maxRecDepth 100000 in
theorem ca_lamp {p : Program} {l : Launch} {e : Env} {s : State} {m : MethodId} {below : List Frame} {meth : Method} {c : Code} {Q : State → Prop} {a0 : Array Value} {G : GG} {h0 h : AH} {b ke wa bc bs bc1 bs1 f : Nat} {A : KA} {σ : NS} {t9 x9 : Int32} {gw : Nat → Int32} (X : MX p l s m meth c s a0 G cL_law "KelirnightLaw" 19) (w : KelW G h 1 ke A σ) (hL : LQ σ) (hf5 : f < 5) (hwa : h wa = some (3, .inl (0, 5, .inl gw))) (hgw : ∀ k, k < 5 → gw k = σ.F k 2) (ez : h (G.2.2 0) = some (0, oArr 0 (fun _ => none))) (hsl : ∃ j, j < 1000 ∧ σ.sl = nI j) (hb : bc1 = bc + 1) (hs : bs1 = bs + 6) {y14 y15 y16 y17 y18 : Option Value} (kk : ∀ (h2 : AH) (A2 : KA) (τ : NS) (u2 u3 u4 u6 : Int32) (z14 z15 z16 z17 z18 : Option Value), ST σ τ f → u2 = τ.ms → u3 = τ.sl → u4 = τ.off → u6 = τ.di → KelW G h2 1 ke A2 τ → h2 wa = some (3, .inl (0, 5, .inl gw)) → h2 (G.2.2 0) = some (0, oArr 0 (fun _ => none)) → AW p l e room_1 s m #[.ref b] below meth c Q s G 19 1 h0 h2 bc bs 1161 [some (.ref b), some (.ref ke), some (.int (u2)), some (.int (u3)), some (.int (u4)), some (.int (σ.o 4)), some (.int (u6)), some (.ref wa), some (.int t9), some (.int x9), some (.int (nI f)), some (.int (σ.F f 3)), some (.int (σ.F f 4)), some (.int σ.mi), z14, z15, z16, z17, z18] []) : AW p l e room_1 s m #[.ref b] below meth c Q s G 19 1 h0 h bc1 bs1 1026 [some (.ref b), some (.ref ke), some (.int (σ.ms)), some (.int (σ.sl)), some (.int (σ.off)), some (.int (σ.o 4)), some (.int (σ.di)), some (.ref wa), some (.int t9), some (.int x9), some (.int (nI f)), some (.int (σ.F f 3)), some (.int (σ.F f 4)), some (.int σ.mi), y14, y15, y16, y17, y18] [] := by
  have hn12 : σ.nf = 5 := hL.2.2.1
  have hnp8 := hL.1.1.1
  have hnp2 := hL.2.2.2
  have hns := hL.1.1.2.1
  refine aw_ald1 X dL_law_1026 rfl ?_
  refine aw_bipush X (20) dL_law_1027 (by decide) rfl ?_
  refine aw_ild9 X dL_law_1029 rfl ?_
  refine aw_iconst X (3) dL_law_1031 (by decide) rfl ?_
  refine aw_ishr X dL_law_1032 rfl ?_
  refine aw_bipush X (61) dL_law_1033 (by decide) rfl ?_
  refine aw_callS X dL_law_1035 rfl (k_L_below X.1 _ (by decide)) cmL_below ml_L_18 rfl rfl (Nat.le_of_ble_eq_true rfl) ⟨Nat.le_of_ble_eq_true rfl, Nat.le_of_ble_eq_true rfl⟩ (aw_rs ?_)
  obtain ⟨a9, ha9, ea9⟩ := blw61 (x9 >>> ((3 : Int32) &&& 31))
  rw [ea9]
  refine aw_iadd X dL_law_1038 rfl ?_
  refine aw_ild9 X dL_law_1039 rfl ?_
  refine aw_iconst X (5) dL_law_1041 (by decide) rfl ?_
  refine aw_ishr X dL_law_1042 rfl ?_
  refine aw_bipush X (10) dL_law_1043 (by decide) rfl ?_
  refine aw_callS X dL_law_1045 rfl (k_below X.1 _ (N := 10) rfl (by decide) (by decide)) cmL_below ml_L_18 rfl rfl (Nat.le_of_ble_eq_true rfl) ⟨Nat.le_of_ble_eq_true rfl, Nat.le_of_ble_eq_true rfl⟩ (fun r h2 hq hf => ?_)
  obtain ⟨b9, hb9, rfl, rfl⟩ := hq
  refine AW.mono (bc2 := bc + 1) (bs2 := bs + 6) (Nat.le_of_eq hb.symm) (Nat.le_of_eq hs.symm) ?_
  refine aw_callVX X dL_law_1048 rfl (k_X6_lamp X.1 (by decide) w (20 + nI a9) (nI b9)) cmX6_lamp ml_L_89 rfl w.1 rfl rfl (Nat.le_of_ble_eq_true rfl) ⟨Nat.le_of_ble_eq_true rfl, Nat.le_of_ble_eq_true rfl⟩ (fun r h2 hq hf => ?_) (fun E h2 hq hf => absurd (r1_0 (lamp_is ha9 hb9)) hq.2.1)
  obtain ⟨rfl, A2, w2⟩ := hq.at0 (lamp_is ha9 hb9)
  have hwa2 := hf.1 _ _ _ hwa (by decide)
  have ez2 := hf.1 _ _ _ ez (by decide)
  have st := lamp_st (f := f) hL ha9 hb9
  refine aw_ild6 X dL_law_1051 rfl ?_
  refine aw_icmp_eq (n2 := 1058) X dL_law_1053 rfl rfl (fun c1053 => ?_) (fun c1053 => absurd rfl c1053)
  refine aw_bipush X (20) dL_law_1058 (by decide) rfl ?_
  refine aw_ild9 X dL_law_1060 rfl ?_
  refine aw_iconst X (3) dL_law_1062 (by decide) rfl ?_
  refine aw_ishr X dL_law_1063 rfl ?_
  refine aw_bipush X (61) dL_law_1064 (by decide) rfl ?_
  refine aw_callS X dL_law_1066 rfl (k_L_below X.1 _ (by decide)) cmL_below ml_L_18 rfl rfl (Nat.le_of_ble_eq_true rfl) ⟨Nat.le_of_ble_eq_true rfl, Nat.le_of_ble_eq_true rfl⟩ (aw_rs ?_)
  rw [ea9]
  refine aw_iadd X dL_law_1069 rfl ?_
  refine aw_ist6 X dL_law_1070 rfl (by decide) rfl ?_
  refine aw_goto (n := 1161) X dL_law_1072 rfl ?_
  exact kk h2 A2 _ _ _ _ _ _ _ _ _ _ st rfl rfl rfl rfl w2 hwa2 ez2

set_option maxHeartbeats 4000000 in
set_option maxRecDepth 100000 in
theorem ca_pass {p : Program} {l : Launch} {e : Env} {s : State} {m : MethodId} {below : List Frame} {meth : Method} {c : Code} {Q : State → Prop} {a0 : Array Value} {G : GG} {h0 h : AH} {b ke wa bc bs bc1 bs1 f : Nat} {A : KA} {σ : NS} {t9 x9 : Int32} {gw : Nat → Int32} (X : MX p l s m meth c s a0 G cL_law "KelirnightLaw" 19) (w : KelW G h 1 ke A σ) (hL : LQ σ) (hf5 : f < 5) (hwa : h wa = some (3, .inl (0, 5, .inl gw))) (hgw : ∀ k, k < 5 → gw k = σ.F k 2) (ez : h (G.2.2 0) = some (0, oArr 0 (fun _ => none))) (hsl : ∃ j, j < 1000 ∧ σ.sl = nI j) (hb : bc1 = bc + 1) (hs : bs1 = bs + 6) {y14 y15 y16 y17 y18 : Option Value} (kk : ∀ (h2 : AH) (A2 : KA) (τ : NS) (u2 u3 u4 u6 : Int32) (z14 z15 z16 z17 z18 : Option Value), ST σ τ f → u2 = τ.ms → u3 = τ.sl → u4 = τ.off → u6 = τ.di → KelW G h2 1 ke A2 τ → h2 wa = some (3, .inl (0, 5, .inl gw)) → h2 (G.2.2 0) = some (0, oArr 0 (fun _ => none)) → AW p l e room_1 s m #[.ref b] below meth c Q s G 19 1 h0 h2 bc bs 1161 [some (.ref b), some (.ref ke), some (.int (u2)), some (.int (u3)), some (.int (u4)), some (.int (σ.o 4)), some (.int (u6)), some (.ref wa), some (.int t9), some (.int x9), some (.int (nI f)), some (.int (σ.F f 3)), some (.int (σ.F f 4)), some (.int σ.mi), z14, z15, z16, z17, z18] []) : AW p l e room_1 s m #[.ref b] below meth c Q s G 19 1 h0 h bc1 bs1 1075 [some (.ref b), some (.ref ke), some (.int (σ.ms)), some (.int (σ.sl)), some (.int (σ.off)), some (.int (σ.o 4)), some (.int (σ.di)), some (.ref wa), some (.int t9), some (.int x9), some (.int (nI f)), some (.int (σ.F f 3)), some (.int (σ.F f 4)), some (.int σ.mi), y14, y15, y16, y17, y18] [] := by
  have hn12 : σ.nf = 5 := hL.2.2.1
  have hnp8 := hL.1.1.1
  have hnp2 := hL.2.2.2
  have hns := hL.1.1.2.1
  refine aw_iconst X (1) dL_law_1075 (by decide) rfl ?_
  refine aw_ild9 X dL_law_1076 rfl ?_
  refine aw_iconst X (3) dL_law_1078 (by decide) rfl ?_
  refine aw_ishr X dL_law_1079 rfl ?_
  refine aw_bipush X (14) dL_law_1080 (by decide) rfl ?_
  refine aw_callS X dL_law_1082 rfl (k_below X.1 _ (N := 14) rfl (by decide) (by decide)) cmL_below ml_L_18 rfl rfl (Nat.le_of_ble_eq_true rfl) ⟨Nat.le_of_ble_eq_true rfl, Nat.le_of_ble_eq_true rfl⟩ (fun r h2 hq hf => ?_)
  obtain ⟨u9, hu9, rfl, rfl⟩ := hq
  refine aw_iadd X dL_law_1085 rfl ?_
  rw [show 1 + nI u9 = nI (1 + u9) from nI_add 1 u9]
  refine aw_ist14 X dL_law_1086 rfl (by decide) rfl ?_
  refine aw_ald1 X dL_law_1088 rfl ?_
  refine aw_bipush X (9) dL_law_1089 (by decide) rfl ?_
  refine aw_callV X dL_law_1091 rfl (r_man X.1 w (by decide) (man9 _)) cmX6_many ml_L_40 rfl w.1 rfl rfl (Nat.le_of_ble_eq_true rfl) ⟨Nat.le_of_ble_eq_true rfl, Nat.le_of_ble_eq_true rfl⟩ (aw_rs ?_)
  refine aw_ist15 X dL_law_1094 rfl (by decide) rfl ?_
  refine aw_ild13 X dL_law_1096 rfl ?_
  refine aw_ild14 X dL_law_1098 rfl ?_
  refine aw_iadd X dL_law_1100 rfl ?_
  refine aw_sipush X (540) dL_law_1101 (by decide) rfl ?_
  refine aw_icmp_le (n2 := 1110) X dL_law_1104 rfl rfl (fun c1104 => ?_) (fun c1104 => ?_)
  · obtain ⟨M, hM9, hM⟩ := mi_nat hL.1
    have hMz := mi_sum hM hM9 (x := nI (1 + u9)) rfl (by omega) c1104
    obtain ⟨T9, hT9, hT⟩ := i_le (n := 100) hL.1.tiB.1 hL.1.tiB.2 (by decide)
    refine aw_ald1 X dL_law_1110 rfl ?_
    refine aw_ild14 X dL_law_1111 rfl ?_
    refine AW.mono (bc2 := bc + 1) (bs2 := bs + 6) (Nat.le_of_eq hb.symm) (Nat.le_of_eq hs.symm) ?_
    refine aw_callVX X dL_law_1113 rfl (k_X6_pass X.1 (by decide) w hL.1.spd (nI (1 + u9))) cmX6_pass ml_L_92 rfl w.1 rfl rfl (Nat.le_of_ble_eq_true rfl) ⟨Nat.le_of_ble_eq_true rfl, Nat.le_of_ble_eq_true rfl⟩ (fun r h2 hq hf => ?_) (fun E h2 hq hf => absurd (r1_0 (pass_is hM (by omega) (by omega) hMz)) hq.2.1)
    obtain ⟨rfl, A2, w2⟩ := hq.at0 (pass_is hM (by omega) (by omega) hMz)
    have hwa2 := hf.1 _ _ _ hwa (by decide)
    have ez2 := hf.1 _ _ _ ez (by decide)
    have st := st_go (f := f) (sp := 0) hL hL.1 rfl rfl rfl rfl (Or.inl rfl) hM hMz
    have em := (IV_go (sp := 0) hL.1 hM (1 + u9) hMz).2
    have et := goN_t0 hT hT9 (1 + u9)
    have pr := goN_pr 0 σ (1 + u9)
    obtain ⟨τ, hτ⟩ : ∃ τ, τ = goN 0 (1 + u9) σ := ⟨_, rfl⟩
    rw [← hτ] at w2 st em pr
    rw [← hτ] at et
    have em2 : σ.ms = τ.ms := (pr.2.2.2.2.2.2.2 4 (by decide) (by decide)).symm
    have em3 : σ.sl = τ.sl := (pr.2.2.2.2.2.2.2 5 (by decide) (by decide)).symm
    have em4 : σ.off = τ.off := (pr.2.2.2.2.2.2.2 6 (by decide) (by decide)).symm
    have em6 : σ.di = τ.di := pr.2.2.2.2.2.1.symm
    rw [← hτ]
    refine aw_ald1 X dL_law_1116 rfl ?_
    refine aw_bipush X (14) dL_law_1117 (by decide) rfl ?_
    refine aw_callV X dL_law_1119 rfl (r_man X.1 w2 (by decide) (man14 _)) cmX6_many ml_L_40 rfl w2.1 rfl rfl (Nat.le_of_ble_eq_true rfl) ⟨Nat.le_of_ble_eq_true rfl, Nat.le_of_ble_eq_true rfl⟩ (aw_rs ?_)
    refine aw_ild5 X dL_law_1122 rfl ?_
    refine aw_isub X dL_law_1124 rfl ?_
    refine aw_icmp_ne (n2 := 1159) X dL_law_1125 rfl rfl (fun c1125 => absurd rfl c1125) (fun c1125 => ?_)
    refine aw_ald1 X dL_law_1128 rfl ?_
    refine aw_bipush X (9) dL_law_1129 (by decide) rfl ?_
    refine aw_callV X dL_law_1131 rfl (r_man X.1 w2 (by decide) (man9 _)) cmX6_many ml_L_40 rfl w2.1 rfl rfl (Nat.le_of_ble_eq_true rfl) ⟨Nat.le_of_ble_eq_true rfl, Nat.le_of_ble_eq_true rfl⟩ (aw_rs ?_)
    refine aw_iconst X (0) dL_law_1134 (by decide) rfl ?_
    refine aw_ild15 X dL_law_1135 rfl ?_
    refine aw_ild14 X dL_law_1137 rfl ?_
    refine aw_isub X dL_law_1139 rfl ?_
    refine aw_mmax X dL_law_1140 rfl ⟨ml_L_95, mm_max⟩ (Nat.le_of_ble_eq_true rfl) (Nat.le_of_ble_eq_true rfl) ?_
    refine aw_icmp_ne (n2 := 1159) X dL_law_1143 rfl rfl (fun c1143 => absurd (et.trans (by rw [hT]; exact (max_is hT9 (by omega)).symm)) c1143) (fun c1143 => ?_)
    refine aw_ald1 X dL_law_1146 rfl ?_
    refine aw_iconst X (0) dL_law_1147 (by decide) rfl ?_
    refine aw_callV X dL_law_1148 rfl (r_man X.1 w2 (by decide) (man0 _)) cmX6_many ml_L_40 rfl w2.1 rfl rfl (Nat.le_of_ble_eq_true rfl) ⟨Nat.le_of_ble_eq_true rfl, Nat.le_of_ble_eq_true rfl⟩ (aw_rs ?_)
    refine aw_ild13 X dL_law_1151 rfl ?_
    refine aw_ild14 X dL_law_1153 rfl ?_
    refine aw_iadd X dL_law_1155 rfl ?_
    refine aw_icmp_eq (n2 := 1161) X dL_law_1156 rfl rfl (fun c1156 => ?_) (fun c1156 => absurd (em.trans (by rw [hM, nI_add])) c1156)
    exact kk h2 A2 τ _ _ _ _ _ _ _ _ _ st em2 em3 em4 em6 w2 hwa2 ez2
  · refine aw_goto (n := 1161) X dL_law_1107 rfl ?_
    refine AW.mono (bc2 := bc) (bs2 := bs) (by omega) (by omega) ?_
    exact kk h A σ _ _ _ _ _ _ _ _ _ (ST.id hL) rfl rfl rfl rfl w hwa ez

set_option maxHeartbeats 4000000 in
set_option maxRecDepth 100000 in
theorem ca_speak {p : Program} {l : Launch} {e : Env} {s : State} {m : MethodId} {below : List Frame} {meth : Method} {c : Code} {Q : State → Prop} {a0 : Array Value} {G : GG} {h0 h : AH} {b ke wa bc bs bc1 bs1 f : Nat} {A : KA} {σ : NS} {t9 x9 : Int32} {gw : Nat → Int32} (X : MX p l s m meth c s a0 G cL_law "KelirnightLaw" 19) (w : KelW G h 1 ke A σ) (hL : LQ σ) (hf5 : f < 5) (hwa : h wa = some (3, .inl (0, 5, .inl gw))) (hgw : ∀ k, k < 5 → gw k = σ.F k 2) (ez : h (G.2.2 0) = some (0, oArr 0 (fun _ => none))) (hsl : ∃ j, j < 1000 ∧ σ.sl = nI j) (hb : bc1 = bc + 1) (hs : bs1 = bs + 6) {y14 y15 y16 y17 y18 : Option Value} (kk : ∀ (h2 : AH) (A2 : KA) (τ : NS) (u2 u3 u4 u6 : Int32) (z14 z15 z16 z17 z18 : Option Value), ST σ τ f → u2 = τ.ms → u3 = τ.sl → u4 = τ.off → u6 = τ.di → KelW G h2 1 ke A2 τ → h2 wa = some (3, .inl (0, 5, .inl gw)) → h2 (G.2.2 0) = some (0, oArr 0 (fun _ => none)) → AW p l e room_1 s m #[.ref b] below meth c Q s G 19 1 h0 h2 bc bs 1161 [some (.ref b), some (.ref ke), some (.int (u2)), some (.int (u3)), some (.int (u4)), some (.int (σ.o 4)), some (.int (u6)), some (.ref wa), some (.int t9), some (.int x9), some (.int (nI f)), some (.int (σ.F f 3)), some (.int (σ.F f 4)), some (.int σ.mi), z14, z15, z16, z17, z18] []) : AW p l e room_1 s m #[.ref b] below meth c Q s G 19 1 h0 h bc1 bs1 731 [some (.ref b), some (.ref ke), some (.int (σ.ms)), some (.int (σ.sl)), some (.int (σ.off)), some (.int (σ.o 4)), some (.int (σ.di)), some (.ref wa), some (.int t9), some (.int x9), some (.int (nI f)), some (.int (σ.F f 3)), some (.int (σ.F f 4)), some (.int σ.mi), y14, y15, y16, y17, y18] [] := by
  have hn12 : σ.nf = 5 := hL.2.2.1
  have hnp8 := hL.1.1.1
  have hnp2 := hL.2.2.2
  have hns := hL.1.1.2.1
  refine aw_ild9 X dL_law_731 rfl ?_
  refine aw_iconst X (3) dL_law_733 (by decide) rfl ?_
  refine aw_ishr X dL_law_734 rfl ?_
  refine aw_ald1 X dL_law_735 rfl ?_
  refine aw_iconst X (1) dL_law_736 (by decide) rfl ?_
  refine aw_callV X dL_law_737 rfl (r_man X.1 w (by decide) (man1 _)) cmX6_many ml_L_40 rfl w.1 rfl rfl (Nat.le_of_ble_eq_true rfl) ⟨Nat.le_of_ble_eq_true rfl, Nat.le_of_ble_eq_true rfl⟩ (aw_rs ?_)
  refine aw_callS X dL_law_740 rfl (k_below X.1 _ (N := σ.np) rfl (by omega) (by omega)) cmL_below ml_L_18 rfl rfl (Nat.le_of_ble_eq_true rfl) ⟨Nat.le_of_ble_eq_true rfl, Nat.le_of_ble_eq_true rfl⟩ (fun r h2 hq hf => ?_)
  obtain ⟨wh, hwh, rfl, rfl⟩ := hq
  refine aw_ist14 X dL_law_743 rfl (by decide) rfl ?_
  refine aw_ild14 X dL_law_745 rfl ?_
  refine aw_iconst X (1) dL_law_747 (by decide) rfl ?_
  refine aw_iadd X dL_law_748 rfl ?_
  refine aw_ald1 X dL_law_749 rfl ?_
  refine aw_iconst X (1) dL_law_750 (by decide) rfl ?_
  refine aw_callV X dL_law_751 rfl (r_man X.1 w (by decide) (man1 _)) cmX6_many ml_L_40 rfl w.1 rfl rfl (Nat.le_of_ble_eq_true rfl) ⟨Nat.le_of_ble_eq_true rfl, Nat.le_of_ble_eq_true rfl⟩ (aw_rs ?_)
  refine aw_irem X dL_law_754 (nI_ne0 (by omega) (by omega)) rfl ?_
  rw [show nI wh + 1 - (nI wh + 1) / nI σ.np * nI σ.np = nI ((wh + 1) % σ.np) from by rw [nI_1]; exact pk_rem (by omega) (by omega) (by omega)]
  refine aw_ist15 X dL_law_755 rfl (by decide) rfl ?_
  refine aw_iconst X (1) dL_law_757 (by decide) rfl ?_
  refine aw_ild9 X dL_law_758 rfl ?_
  refine aw_bipush X (6) dL_law_760 (by decide) rfl ?_
  refine aw_ishr X dL_law_762 rfl ?_
  refine aw_bipush X (9) dL_law_763 (by decide) rfl ?_
  refine aw_callS X dL_law_765 rfl (k_below X.1 _ (N := 9) rfl (by decide) (by decide)) cmL_below ml_L_18 rfl rfl (Nat.le_of_ble_eq_true rfl) ⟨Nat.le_of_ble_eq_true rfl, Nat.le_of_ble_eq_true rfl⟩ (fun r h2 hq hf => ?_)
  obtain ⟨u9, hu9, rfl, rfl⟩ := hq
  refine aw_iadd X dL_law_768 rfl ?_
  rw [show 1 + nI u9 = nI (1 + u9) from nI_add 1 u9]
  refine aw_ist16 X dL_law_769 rfl (by decide) rfl ?_
  refine aw_ald1 X dL_law_771 rfl ?_
  refine aw_bipush X (9) dL_law_772 (by decide) rfl ?_
  refine aw_callV X dL_law_774 rfl (r_man X.1 w (by decide) (man9 _)) cmX6_many ml_L_40 rfl w.1 rfl rfl (Nat.le_of_ble_eq_true rfl) ⟨Nat.le_of_ble_eq_true rfl, Nat.le_of_ble_eq_true rfl⟩ (aw_rs ?_)
  refine aw_ist17 X dL_law_777 rfl (by decide) rfl ?_
  refine aw_ald1 X dL_law_779 rfl ?_
  refine aw_bipush X (7) dL_law_780 (by decide) rfl ?_
  refine aw_callV X dL_law_782 rfl (r_man X.1 w (by decide) (man7 _)) cmX6_many ml_L_40 rfl w.1 rfl rfl (Nat.le_of_ble_eq_true rfl) ⟨Nat.le_of_ble_eq_true rfl, Nat.le_of_ble_eq_true rfl⟩ (aw_rs ?_)
  refine aw_ild14 X dL_law_785 rfl ?_
  refine aw_ishr X dL_law_787 rfl ?_
  refine aw_iconst X (1) dL_law_788 (by decide) rfl ?_
  refine aw_iand X dL_law_789 rfl ?_
  refine aw_if_eq (n2 := 1161) X dL_law_790 rfl rfl (fun c790 => ?_) (fun c790 => ?_)
  · refine AW.mono (bc2 := bc) (bs2 := bs) (by omega) (by omega) ?_
    exact kk h A σ _ _ _ _ _ _ _ _ _ (ST.id hL) rfl rfl rfl rfl w hwa ez
  · refine aw_ild17 X dL_law_793 rfl ?_
    refine aw_bipush X (79) dL_law_795 (by decide) rfl ?_
    refine aw_icmp_gt (n2 := 1161) X dL_law_797 rfl rfl (fun c797 => ?_) (fun c797 => ?_)
    · refine AW.mono (bc2 := bc) (bs2 := bs) (by omega) (by omega) ?_
      exact kk h A σ _ _ _ _ _ _ _ _ _ (ST.id hL) rfl rfl rfl rfl w hwa ez
    · refine aw_ild13 X dL_law_800 rfl ?_
      refine aw_ild16 X dL_law_802 rfl ?_
      refine aw_iadd X dL_law_804 rfl ?_
      refine aw_sipush X (540) dL_law_805 (by decide) rfl ?_
      refine aw_icmp_le (n2 := 814) X dL_law_808 rfl rfl (fun c808 => ?_) (fun c808 => ?_)
      · obtain ⟨M, hM9, hM⟩ := mi_nat hL.1
        have hMz := mi_sum hM hM9 (x := nI (1 + u9)) rfl (by omega) c808
        have hsh : holdsP (setF σ.F σ.nf) (nI wh) := (holds_bt (by omega)).mpr (by
          by_cases z : bt (setF σ.F σ.nf) wh = true
          · exact z
          · exact absurd ((bt_0 (by omega)).mpr z) c790)
        refine aw_ald1 X dL_law_814 rfl ?_
        refine aw_ild14 X dL_law_815 rfl ?_
        refine aw_ild15 X dL_law_817 rfl ?_
        refine aw_ild16 X dL_law_819 rfl ?_
        refine aw_ild9 X dL_law_821 rfl ?_
        refine aw_iconst X (2) dL_law_823 (by decide) rfl ?_
        refine aw_ishr X dL_law_824 rfl ?_
        refine aw_iconst X (3) dL_law_825 (by decide) rfl ?_
        refine aw_callS X dL_law_826 rfl (k_below X.1 _ (N := 3) rfl (by decide) (by decide)) cmL_below ml_L_18 rfl rfl (Nat.le_of_ble_eq_true rfl) ⟨Nat.le_of_ble_eq_true rfl, Nat.le_of_ble_eq_true rfl⟩ (fun r h2 hq hf => ?_)
        obtain ⟨jl, hjl, rfl, rfl⟩ := hq
        refine aw_iconst X (1) dL_law_829 (by decide) rfl ?_
        refine aw_isub X dL_law_830 rfl ?_
        refine AW.mono (bc2 := bc + 1) (bs2 := bs + 6) (Nat.le_of_eq hb.symm) (Nat.le_of_eq hs.symm) ?_
        refine aw_callVX X dL_law_831 rfl (k_X6_speak X.1 (by decide) w hL.1.spd (nI wh) (nI ((wh + 1) % σ.np)) (nI (1 + u9)) (nI jl - 1)) cmX6_speak ml_L_79 rfl w.1 rfl rfl (Nat.le_of_ble_eq_true rfl) ⟨Nat.le_of_ble_eq_true rfl, Nat.le_of_ble_eq_true rfl⟩ (fun r h2 hq hf => ?_) (fun E h2 hq hf => absurd (r1_0 (speak_is hL hM hwh (Nat.mod_lt _ (by omega)) (next_ne hwh hnp2) (by omega) (by omega) hjl hsh (Int32.not_lt.mp c797) hMz)) hq.2.1)
        obtain ⟨rfl, A2, w2⟩ := hq.at0 (speak_is hL hM hwh (Nat.mod_lt _ (by omega)) (next_ne hwh hnp2) (by omega) (by omega) hjl hsh (Int32.not_lt.mp c797) hMz)
        have hwa2 := hf.1 _ _ _ hwa (by decide)
        have ez2 := hf.1 _ _ _ ez (by decide)
        obtain ⟨st, em, et⟩ := speak_st (f := f) (y := nI ((wh + 1) % σ.np)) (u := nI jl - 1) hL hM hwh (by omega) (by omega) hMz
        obtain ⟨t1, t2⟩ := speak_ti (y := nI ((wh + 1) % σ.np)) (u := nI jl - 1) hL hwh (z := 1 + u9) (by omega) (by omega) (Int32.not_lt.mp c797)
        have pr := goN_pr 1 (spL σ (nI wh) (nI ((wh + 1) % σ.np)) (nI (1 + u9)) (nI jl - 1)) (1 + u9)
        obtain ⟨s2, s4, s6⟩ := spL_m (σ := σ) (x := nI wh) (y := nI ((wh + 1) % σ.np)) (z := nI (1 + u9)) (u := nI jl - 1)
        obtain ⟨τ, hτ⟩ : ∃ τ, τ = goN 1 (1 + u9) (spL σ (nI wh) (nI ((wh + 1) % σ.np)) (nI (1 + u9)) (nI jl - 1)) := ⟨_, rfl⟩
        rw [← hτ] at w2 st em pr
        rw [← hτ] at et
        have em2 : σ.ms = τ.ms := ((pr.2.2.2.2.2.2.2 4 (by decide) (by decide)).trans s2).symm
        have em4 : σ.off = τ.off := ((pr.2.2.2.2.2.2.2 6 (by decide) (by decide)).trans s4).symm
        have em6 : σ.di = τ.di := (pr.2.2.2.2.2.1.trans s6).symm
        obtain ⟨j9, hj9, ej9⟩ := hsl
        refine aw_ist18 X dL_law_834 rfl (by decide) rfl ?_
        refine aw_ild3 X dL_law_836 rfl ?_
        refine aw_ald1 X dL_law_837 rfl ?_
        refine aw_bipush X (12) dL_law_838 (by decide) rfl ?_
        refine aw_callV X dL_law_840 rfl (r_man X.1 w2 (by decide) (man12 _)) cmX6_many ml_L_40 rfl w2.1 rfl rfl (Nat.le_of_ble_eq_true rfl) ⟨Nat.le_of_ble_eq_true rfl, Nat.le_of_ble_eq_true rfl⟩ (aw_rs ?_)
        refine aw_ild3 X dL_law_843 rfl ?_
        refine aw_icmp_le (n2 := 851) X dL_law_844 rfl rfl (fun c844 => ?_) (fun c844 => ?_)
        · refine aw_iconst X (0) dL_law_851 (by decide) rfl ?_
          refine aw_iadd X dL_law_852 rfl ?_
          have em3 := (show σ.sl + 0 = τ.sl from by rcases st.2.2 with z | z; (rw [z, Int32.add_zero]); (rw [z, ej9, nI_1] at c844; exact absurd c844 (nI_ge (by omega) (by omega))))
          refine aw_ist3 X dL_law_853 rfl (by decide) rfl ?_
          refine aw_ild18 X dL_law_854 rfl ?_
          refine aw_ild17 X dL_law_856 rfl ?_
          refine aw_icmp_le (n2 := 892) X dL_law_858 rfl rfl (fun c858 => absurd c858 t1) (fun c858 => ?_)
          refine aw_ild18 X dL_law_861 rfl ?_
          refine aw_bipush X (100) dL_law_863 (by decide) rfl ?_
          refine aw_icmp_gt (n2 := 892) X dL_law_865 rfl rfl (fun c865 => absurd c865 t2) (fun c865 => ?_)
          refine aw_ild18 X dL_law_868 rfl ?_
          refine aw_ald1 X dL_law_870 rfl ?_
          refine aw_bipush X (9) dL_law_871 (by decide) rfl ?_
          refine aw_callV X dL_law_873 rfl (r_man X.1 w2 (by decide) (man9 _)) cmX6_many ml_L_40 rfl w2.1 rfl rfl (Nat.le_of_ble_eq_true rfl) ⟨Nat.le_of_ble_eq_true rfl, Nat.le_of_ble_eq_true rfl⟩ (aw_rs ?_)
          refine aw_icmp_ne (n2 := 892) X dL_law_876 rfl rfl (fun c876 => absurd et.symm c876) (fun c876 => ?_)
          refine aw_ald1 X dL_law_879 rfl ?_
          refine aw_iconst X (0) dL_law_880 (by decide) rfl ?_
          refine aw_callV X dL_law_881 rfl (r_man X.1 w2 (by decide) (man0 _)) cmX6_many ml_L_40 rfl w2.1 rfl rfl (Nat.le_of_ble_eq_true rfl) ⟨Nat.le_of_ble_eq_true rfl, Nat.le_of_ble_eq_true rfl⟩ (aw_rs ?_)
          refine aw_ild13 X dL_law_884 rfl ?_
          refine aw_ild16 X dL_law_886 rfl ?_
          refine aw_iadd X dL_law_888 rfl ?_
          refine aw_icmp_eq (n2 := 1161) X dL_law_889 rfl rfl (fun c889 => ?_) (fun c889 => absurd (em.trans (by rw [hM, nI_add])) c889)
          exact kk h2 A2 τ _ _ _ _ _ _ _ _ _ st em2 em3 em4 em6 w2 hwa2 ez2
        · refine aw_iconst X (1) dL_law_847 (by decide) rfl ?_
          refine aw_goto (n := 852) X dL_law_848 rfl ?_
          refine aw_iadd X dL_law_852 rfl ?_
          have em3 := (show σ.sl + 1 = τ.sl from by rcases st.2.2 with z | z; (rw [z] at c844; exact absurd (Int32.le_refl _) c844); (rw [z]))
          refine aw_ist3 X dL_law_853 rfl (by decide) rfl ?_
          refine aw_ild18 X dL_law_854 rfl ?_
          refine aw_ild17 X dL_law_856 rfl ?_
          refine aw_icmp_le (n2 := 892) X dL_law_858 rfl rfl (fun c858 => absurd c858 t1) (fun c858 => ?_)
          refine aw_ild18 X dL_law_861 rfl ?_
          refine aw_bipush X (100) dL_law_863 (by decide) rfl ?_
          refine aw_icmp_gt (n2 := 892) X dL_law_865 rfl rfl (fun c865 => absurd c865 t2) (fun c865 => ?_)
          refine aw_ild18 X dL_law_868 rfl ?_
          refine aw_ald1 X dL_law_870 rfl ?_
          refine aw_bipush X (9) dL_law_871 (by decide) rfl ?_
          refine aw_callV X dL_law_873 rfl (r_man X.1 w2 (by decide) (man9 _)) cmX6_many ml_L_40 rfl w2.1 rfl rfl (Nat.le_of_ble_eq_true rfl) ⟨Nat.le_of_ble_eq_true rfl, Nat.le_of_ble_eq_true rfl⟩ (aw_rs ?_)
          refine aw_icmp_ne (n2 := 892) X dL_law_876 rfl rfl (fun c876 => absurd et.symm c876) (fun c876 => ?_)
          refine aw_ald1 X dL_law_879 rfl ?_
          refine aw_iconst X (0) dL_law_880 (by decide) rfl ?_
          refine aw_callV X dL_law_881 rfl (r_man X.1 w2 (by decide) (man0 _)) cmX6_many ml_L_40 rfl w2.1 rfl rfl (Nat.le_of_ble_eq_true rfl) ⟨Nat.le_of_ble_eq_true rfl, Nat.le_of_ble_eq_true rfl⟩ (aw_rs ?_)
          refine aw_ild13 X dL_law_884 rfl ?_
          refine aw_ild16 X dL_law_886 rfl ?_
          refine aw_iadd X dL_law_888 rfl ?_
          refine aw_icmp_eq (n2 := 1161) X dL_law_889 rfl rfl (fun c889 => ?_) (fun c889 => absurd (em.trans (by rw [hM, nI_add])) c889)
          exact kk h2 A2 τ _ _ _ _ _ _ _ _ _ st em2 em3 em4 em6 w2 hwa2 ez2
      · refine aw_goto (n := 1161) X dL_law_811 rfl ?_
        refine AW.mono (bc2 := bc) (bs2 := bs) (by omega) (by omega) ?_
        exact kk h A σ _ _ _ _ _ _ _ _ _ (ST.id hL) rfl rfl rfl rfl w hwa ez
