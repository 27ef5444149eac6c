/-! THE LAW'S TAIL, STEP, LOOP AND START -/
theorem lgc_eq {x y : Int64} (h : x = y) : lg_cmp x y = 0 := by
  subst h
  unfold lg_cmp
  rw [if_neg (fun q => Int64.lt_irrefl q), if_pos rfl]
theorem sl_up {σ τ : NS} {t : Nat} (h : ∃ j, j ≤ t ∧ σ.sl = nI j) (c : τ.sl = σ.sl ∨ τ.sl = σ.sl + 1) : ∃ j, j ≤ t + 1 ∧ τ.sl = nI j := by
  obtain ⟨j, hj, e⟩ := h
  rcases c with c | c
  · exact ⟨j, by omega, c.trans e⟩
  · exact ⟨j + 1, by omega, by rw [c, e, nI_1]⟩

set_option maxHeartbeats 4000000 in
set_option maxRecDepth 100000 in
theorem lw_tail {p : Program} {l : Launch} {e : Env} {s : State} {m : MethodId} {below : List Frame} {meth : Method} {c : Code} {Q : State → Prop} {a0 : Array Value} {G : GG} {h0 : AH} {b ke wa : Nat} (X : MX p l s m meth c s a0 G cL_law "KelirnightLaw" 19) (hz0 : ∀ b t x, h0 b = some (t, x) → t = 0) {h : AH} {bc bs f : Nat} {A : KA} {σ τ : NS} {t9 x9 : Int32} {gw : Nat → Int32} (hf5 : f < 5) (st : ST σ τ f) (hL : LQ σ) (w : KelW G h 1 ke A τ) (hwa : h wa = some (3, .inl (0, 5, .inl gw))) (hgw : ∀ k, k < 5 → gw k = σ.F k 2) (ez : h (G.2.2 0) = some (0, oArr 0 (fun _ => none))) {u2 u3 u4 u6 : Int32} (e2 : u2 = τ.ms) (e3 : u3 = τ.sl) (e4 : u4 = τ.off) (e6 : u6 = τ.di) {y14 y15 y16 y17 y18 : Option Value} (kz : ∀ (h2 : AH) (A2 : KA) (g2 : Nat → Int32) (z9 z10 z11 z12 z13 z14 z15 z16 z17 z18 : Option Value), KelW G h2 1 ke A2 τ → h2 wa = some (3, .inl (0, 5, .inl g2)) → (∀ k, k < 5 → g2 k = τ.F k 2) → h2 (G.2.2 0) = some (0, oArr 0 (fun _ => none)) → AW p l e room_1 s m #[.ref b] below meth c Q s G 19 1 h0 h2 bc bs 27 [some (.ref b), some (.ref ke), some (.int (τ.ms)), some (.int (τ.sl)), some (.int (τ.off)), some (.int (τ.o 4)), some (.int (τ.di)), some (.ref wa), some (.int (t9 + 1)), z9, z10, z11, z12, z13, z14, z15, z16, z17, z18] []) : AW p l e room_1 s m #[.ref b] below meth c Q s G 19 1 h0 h bc bs 1161 [some (.ref b), some (.ref ke), some (.int (u2)), some (.int (u3)), some (.int (u4)), some (.int (σ.o 4)), some (.int (u6)), some (.ref wa), some (.int t9), some (.int x9), some (.int (nI f)), some (.int (σ.F f 3)), some (.int (σ.F f 4)), some (.int σ.mi), y14, y15, y16, y17, y18] [] := by
  subst e2 e3 e4 e6
  obtain ⟨M, N, eM, eN, hMN, hN, hww⟩ := st.2.1
  refine aw_ald1 X dL_law_1161 rfl ?_
  refine aw_bipush X (14) dL_law_1162 (by decide) rfl ?_
  refine aw_callV X dL_law_1164 rfl (r_man X.1 w (by decide) (man14 _)) cmX6_many ml_L_40 rfl w.1 rfl rfl (Nat.le_of_ble_eq_true rfl) ⟨Nat.le_of_ble_eq_true rfl, Nat.le_of_ble_eq_true rfl⟩ (aw_rs ?_)
  refine aw_ist5 X dL_law_1167 rfl (by decide) rfl ?_
  refine aw_ald1 X dL_law_1169 rfl ?_
  refine aw_iconst X (0) dL_law_1170 (by decide) rfl ?_
  refine aw_callV X dL_law_1171 rfl (r_man X.1 w (by decide) (man0 _)) cmX6_many ml_L_40 rfl w.1 rfl rfl (Nat.le_of_ble_eq_true rfl) ⟨Nat.le_of_ble_eq_true rfl, Nat.le_of_ble_eq_true rfl⟩ (aw_rs ?_)
  refine aw_bipush X (30) dL_law_1174 (by decide) rfl ?_
  refine aw_idiv X dL_law_1176 (by decide) rfl ?_
  refine aw_ild13 X dL_law_1177 rfl ?_
  refine aw_bipush X (30) dL_law_1179 (by decide) rfl ?_
  refine aw_idiv X dL_law_1181 (by decide) rfl ?_
  refine aw_isub X dL_law_1182 rfl ?_
  rw [show τ.mi / 30 - σ.mi / 30 = nI (N / 30 - M / 30) from by rw [eM, eN, show nI N / 30 = nI (N / 30) from pk_div (d := 30) (by omega) (by decide) (by decide), show nI M / 30 = nI (M / 30) from pk_div (d := 30) (by omega) (by decide) (by decide), pk_sub (Nat.div_le_div_right hMN)]]
  refine aw_ist14 X dL_law_1183 rfl (by decide) rfl ?_
  refine aw_iconst X (0) dL_law_1185 (by decide) rfl ?_
  refine aw_ist15 X dL_law_1186 rfl (by decide) rfl ?_
  refine aw_dn (n := 5) (A := fun j k => ∀ (y16 : Option Value), ∀ (y17 : Option Value), ∀ (y18 : Option Value), ∀ (x : Int32), ∀ (h9 : AH), ∀ (g9 : Nat → Int32), (x = nI k) → (KelW G h9 1 ke A τ) → (h9 wa = some (3, .inl (0, 5, .inl g9))) → (∀ i, i < 5 → g9 i = if i < k then τ.F i 2 else σ.F i 2) → (h9 (G.2.2 0) = some (0, oArr 0 (fun _ => none))) → AW p l e _ s m _ below meth c _ s G 19 1 _ h9 bc bs 1188 [some (.ref b), some (.ref ke), some (.int (τ.ms)), some (.int (τ.sl)), some (.int (τ.off)), some (.int (τ.o 4)), some (.int (τ.di)), some (.ref wa), some (.int t9), some (.int x9), some (.int (nI f)), some (.int (σ.F f 3)), some (.int (σ.F f 4)), some (.int σ.mi), some (.int (nI (N / 30 - M / 30))), some (.int x), y16, y17, y18] []) ?_ ?_ 5 0 rfl _ _ _ 0 h gw nI_0.symm w hwa (fun i hi => by rw [if_neg (Nat.not_lt_zero _)]; exact hgw i hi) ez
  · intro y16 y17 y18 x h9 g9 hx hw9 hga hg9 ez9
    refine aw_ild15 X dL_law_1188 rfl ?_
    refine aw_iconst X (5) dL_law_1190 (by decide) rfl ?_
    refine aw_icmp_ge (n2 := 1254) X dL_law_1191 rfl rfl (fun c1191 => ?_) (fun c1191 => absurd (by rw [hx]; decide) c1191)
    refine aw_ald1 X dL_law_1254 rfl ?_
    refine aw_bipush X (11) dL_law_1255 (by decide) rfl ?_
    refine aw_callV X dL_law_1257 rfl (r_man X.1 hw9 (by decide) (man11 _)) cmX6_many ml_L_40 rfl hw9.1 rfl rfl (Nat.le_of_ble_eq_true rfl) ⟨Nat.le_of_ble_eq_true rfl, Nat.le_of_ble_eq_true rfl⟩ (aw_rs ?_)
    refine aw_ild2 X dL_law_1260 rfl ?_
    refine aw_icmp_ne (n2 := 1294) X dL_law_1261 rfl rfl (fun c1261 => absurd rfl c1261) (fun c1261 => ?_)
    refine aw_ald1 X dL_law_1264 rfl ?_
    refine aw_bipush X (12) dL_law_1265 (by decide) rfl ?_
    refine aw_callV X dL_law_1267 rfl (r_man X.1 hw9 (by decide) (man12 _)) cmX6_many ml_L_40 rfl hw9.1 rfl rfl (Nat.le_of_ble_eq_true rfl) ⟨Nat.le_of_ble_eq_true rfl, Nat.le_of_ble_eq_true rfl⟩ (aw_rs ?_)
    refine aw_ild3 X dL_law_1270 rfl ?_
    refine aw_icmp_ne (n2 := 1294) X dL_law_1271 rfl rfl (fun c1271 => absurd rfl c1271) (fun c1271 => ?_)
    refine aw_ald1 X dL_law_1274 rfl ?_
    refine aw_bipush X (13) dL_law_1275 (by decide) rfl ?_
    refine aw_callV X dL_law_1277 rfl (r_man X.1 hw9 (by decide) (man13 _)) cmX6_many ml_L_40 rfl hw9.1 rfl rfl (Nat.le_of_ble_eq_true rfl) ⟨Nat.le_of_ble_eq_true rfl, Nat.le_of_ble_eq_true rfl⟩ (aw_rs ?_)
    refine aw_ild4 X dL_law_1280 rfl ?_
    refine aw_icmp_ne (n2 := 1294) X dL_law_1282 rfl rfl (fun c1282 => absurd rfl c1282) (fun c1282 => ?_)
    refine aw_ald1 X dL_law_1285 rfl ?_
    refine aw_ild6 X dL_law_1286 rfl ?_
    refine aw_callS X dL_law_1288 rfl (k_isSo X.1 (by decide) hw9 st.1.1 st.1.2.1 st.1.2.2.1) cmL_isSo ml_L_98 rfl rfl (Nat.le_of_ble_eq_true rfl) ⟨Nat.le_of_ble_eq_true rfl, Nat.le_of_ble_eq_true rfl⟩ (fun r h2 hq hf => ?_)
    obtain ⟨rfl, A3, w3⟩ := hq
    have hwa3 := hf.1 _ _ _ hga (by decide)
    have ez3 := hf.1 _ _ _ ez9 (by decide)
    refine aw_if_ne (n2 := 1296) X dL_law_1291 rfl rfl (fun c1291 => ?_) (fun c1291 => absurd c1291 (by decide))
    refine aw_iinc8 X (1) dL_law_1296 (by decide) rfl (by decide) rfl ?_
    refine aw_goto (n := 27) X dL_law_1299 rfl ?_
    exact kz h2 A3 g9 _ _ _ _ _ _ _ _ _ _ w3 hwa3 (fun k hk => by rw [hg9 k hk, if_pos hk]) ez3
  · intro j k hjk ih y16 y17 y18 x h9 g9 hx hw9 hga hg9 ez9
    have hk5 : k < 5 := by omega
    obtain ⟨a9, b9, ea9, eb9, h1, h2b, h3⟩ := hww k hk5
    refine aw_ild15 X dL_law_1188 rfl ?_
    refine aw_iconst X (5) dL_law_1190 (by decide) rfl ?_
    refine aw_icmp_ge (n2 := 1254) X dL_law_1191 rfl rfl (fun c1191 => absurd c1191 (by rw [hx]; exact (show ¬ nI 5 ≤ nI k from nI_ge (by omega) (by decide)))) (fun c1191 => ?_)
    refine aw_ald1 X dL_law_1194 rfl ?_
    refine aw_ild15 X dL_law_1195 rfl ?_
    refine aw_iconst X (2) dL_law_1197 (by decide) rfl ?_
    refine aw_callV X dL_law_1198 rfl (r_fig X.1 hw9 hx (by rw [st.1.2.2.1]; omega) (by decide) (fv2 _ _ _)) cmX6_ofFigure ml_L_37 rfl hw9.1 rfl rfl (Nat.le_of_ble_eq_true rfl) ⟨Nat.le_of_ble_eq_true rfl, Nat.le_of_ble_eq_true rfl⟩ (aw_rs ?_)
    refine aw_ist16 X dL_law_1201 rfl (by decide) rfl ?_
    refine aw_ild16 X dL_law_1203 rfl ?_
    refine aw_ald7 X dL_law_1205 rfl ?_
    refine aw_ild15 X dL_law_1207 rfl ?_
    refine aw_iald X (k) dL_law_1209 rfl hga hx hk5 (by decide) ?_
    rw [hg9 k hk5, if_neg (Nat.lt_irrefl k), eb9, ea9]
    refine aw_isub X dL_law_1210 rfl ?_
    rw [pk_sub h1]
    refine aw_ist17 X dL_law_1211 rfl (by decide) rfl ?_
    refine aw_ild17 X dL_law_1213 rfl ?_
    refine aw_if_lt (n2 := 1239) X dL_law_1215 rfl rfl (fun c1215 => absurd c1215 (nI_pos (by omega))) (fun c1215 => ?_)
    refine aw_ild17 X dL_law_1218 rfl ?_
    refine aw_ild14 X dL_law_1220 rfl ?_
    refine aw_ild15 X dL_law_1222 rfl ?_
    refine aw_ild10 X dL_law_1224 rfl ?_
    refine aw_icmp_ne (n2 := 1234) X dL_law_1226 rfl rfl (fun c1226 => ?_) (fun c1226 => ?_)
    · refine aw_iconst X (0) dL_law_1234 (by decide) rfl ?_
      refine aw_iadd X dL_law_1235 rfl ?_
      refine aw_icmp_le (n2 := 1241) X dL_law_1236 rfl rfl (fun c1236 => ?_) (fun c1236 => absurd (by
          have hkf : ¬ k = f := fun z => c1226 (by rw [hx, z])
          rw [if_neg hkf] at h3
          rw [Int32.add_zero]
          exact nI_le (by omega) (by omega)) c1236)
      refine aw_ald7 X dL_law_1241 rfl ?_
      refine aw_ild15 X dL_law_1243 rfl ?_
      refine aw_ild16 X dL_law_1245 rfl ?_
      refine aw_tg (tg2 := 3) hz0 (by decide) ?_
      refine aw_iast X (k) dL_law_1247 rfl (by decide) hga hx hk5 (by decide) ?_
      refine aw_tg (tg2 := 1) hz0 (by decide) ?_
      refine aw_iinc15 X (1) dL_law_1248 (by decide) rfl (by decide) rfl ?_
      refine aw_goto (n := 1188) X dL_law_1251 rfl ?_
      exact ih _ _ _ (x + 1) _ (upd g9 k (nI b9)) (nx hx) (hw9.tagK (fun a x e => (hu_n (tag_ne e hga (by decide))).trans e) (hu_n (tag_ne ez9 hga (by decide)))) hu_s (fun i hi => by
        by_cases q : i = k
        · rw [q, pk_us, if_pos (Nat.lt_succ_self k), eb9]
        · rw [pk_un q, hg9 i hi]
          by_cases z : i < k
          · rw [if_pos z, if_pos (show i < k + 1 by omega)]
          · rw [if_neg z, if_neg (show ¬ i < k + 1 by omega)]) ((hu_n (tag_ne ez9 hga (by decide))).trans ez9)
    · refine aw_bipush X (9) dL_law_1229 (by decide) rfl ?_
      refine aw_goto (n := 1235) X dL_law_1231 rfl ?_
      refine aw_iadd X dL_law_1235 rfl ?_
      refine aw_icmp_le (n2 := 1241) X dL_law_1236 rfl rfl (fun c1236 => ?_) (fun c1236 => absurd (by
          have h9 : (if k = f then 9 else 0) ≤ 9 := by split <;> omega
          rw [show nI (N / 30 - M / 30) + 9 = nI (N / 30 - M / 30 + 9) from nI_add _ 9]
          exact nI_le (by omega) (by omega)) c1236)
      refine aw_ald7 X dL_law_1241 rfl ?_
      refine aw_ild15 X dL_law_1243 rfl ?_
      refine aw_ild16 X dL_law_1245 rfl ?_
      refine aw_tg (tg2 := 3) hz0 (by decide) ?_
      refine aw_iast X (k) dL_law_1247 rfl (by decide) hga hx hk5 (by decide) ?_
      refine aw_tg (tg2 := 1) hz0 (by decide) ?_
      refine aw_iinc15 X (1) dL_law_1248 (by decide) rfl (by decide) rfl ?_
      refine aw_goto (n := 1188) X dL_law_1251 rfl ?_
      exact ih _ _ _ (x + 1) _ (upd g9 k (nI b9)) (nx hx) (hw9.tagK (fun a x e => (hu_n (tag_ne e hga (by decide))).trans e) (hu_n (tag_ne ez9 hga (by decide)))) hu_s (fun i hi => by
        by_cases q : i = k
        · rw [q, pk_us, if_pos (Nat.lt_succ_self k), eb9]
        · rw [pk_un q, hg9 i hi]
          by_cases z : i < k
          · rw [if_pos z, if_pos (show i < k + 1 by omega)]
          · rw [if_neg z, if_neg (show ¬ i < k + 1 by omega)]) ((hu_n (tag_ne ez9 hga (by decide))).trans ez9)

set_option maxHeartbeats 4000000 in
set_option maxRecDepth 100000 in
theorem law_step {p : Program} {l : Launch} {e : Env} {s : State} {m : MethodId} {below : List Frame} {meth : Method} {c : Code} {Q : State → Prop} {a0 : Array Value} {G : GG} {h0 : AH} {b ke wa : Nat} (X : MX p l s m meth c s a0 G cL_law "KelirnightLaw" 19) (hz0 : ∀ b t x, h0 b = some (t, x) → t = 0) {L : Nat} {xs : Nat → Int32} (S : SX s b L xs) (hL9 : L ≤ 260) {h : AH} {bc bs bc1 bs1 t : Nat} {A : KA} {σ : NS} {gw : Nat → Int32} (hL : LQ σ) (ht : t < 80) (hsl : ∃ j, j ≤ t ∧ σ.sl = nI j) (w : KelW G h 1 ke A σ) (hwa : h wa = some (3, .inl (0, 5, .inl gw))) (hgw : ∀ k, k < 5 → gw k = σ.F k 2) (ez : h (G.2.2 0) = some (0, oArr 0 (fun _ => none))) (hb : bc1 = bc + 1) (hs : bs1 = bs + 6) {y9 y10 y11 y12 y13 y14 y15 y16 y17 y18 : Option Value} (kz : ∀ (h2 : AH) (A2 : KA) (τ : NS) (g2 : Nat → Int32) (z9 z10 z11 z12 z13 z14 z15 z16 z17 z18 : Option Value), LQ τ → (∃ j, j ≤ t + 1 ∧ τ.sl = nI j) → KelW G h2 1 ke A2 τ → h2 wa = some (3, .inl (0, 5, .inl g2)) → (∀ k, k < 5 → g2 k = τ.F k 2) → h2 (G.2.2 0) = some (0, oArr 0 (fun _ => none)) → AW p l e room_1 s m #[.ref b] below meth c Q s G 19 1 h0 h2 bc bs 27 [some (.ref b), some (.ref ke), some (.int (τ.ms)), some (.int (τ.sl)), some (.int (τ.off)), some (.int (τ.o 4)), some (.int (τ.di)), some (.ref wa), some (.int (nI (t + 1))), z9, z10, z11, z12, z13, z14, z15, z16, z17, z18] []) : AW p l e room_1 s m #[.ref b] below meth c Q s G 19 1 h0 h bc1 bs1 27 [some (.ref b), some (.ref ke), some (.int (σ.ms)), some (.int (σ.sl)), some (.int (σ.off)), some (.int (σ.o 4)), some (.int (σ.di)), some (.ref wa), some (.int (nI t)), y9, y10, y11, y12, y13, y14, y15, y16, y17, y18] [] := by
  have hsl9 : ∃ j, j < 1000 ∧ σ.sl = nI j := by
    obtain ⟨j, hj, e⟩ := hsl
    exact ⟨j, by omega, e⟩
  refine aw_ild8 X dL_law_27 rfl ?_
  refine aw_bipush X (80) dL_law_29 (by decide) rfl ?_
  refine aw_icmp_ge (n2 := 1302) X dL_law_31 rfl rfl (fun c31 => absurd c31 (by exact (show ¬ nI 80 ≤ nI t from nI_ge ht (by decide)))) (fun c31 => ?_)
  refine aw_ald0 X dL_law_34 rfl ?_
  refine aw_bipush X (20) dL_law_35 (by decide) rfl ?_
  refine aw_ild8 X dL_law_37 rfl ?_
  refine aw_bipush X (11) dL_law_39 (by decide) rfl ?_
  refine aw_irem X dL_law_41 (by decide) rfl ?_
  refine aw_iadd X dL_law_42 rfl ?_
  refine aw_callS X dL_law_43 rfl (k_L_cell X.1 S hL9 (j := 20 + t % 11) (by rw [show nI t - nI t / 11 * 11 = nI (t % 11) from pk_rem (d := 11) (by omega) (by decide) (by decide)]; exact nI_add 20 _) (by omega)) cmL_cell ml_L_12 rfl rfl (Nat.le_of_ble_eq_true rfl) ⟨Nat.le_of_ble_eq_true rfl, Nat.le_of_ble_eq_true rfl⟩ (fun r h2 hq hf => ?_)
  obtain ⟨⟨x4, rfl⟩, rfl⟩ := hq
  refine aw_ild8 X dL_law_46 rfl ?_
  refine aw_bipush X (11) dL_law_48 (by decide) rfl ?_
  refine aw_idiv X dL_law_50 (by decide) rfl ?_
  refine aw_iconst X (4) dL_law_51 (by decide) rfl ?_
  refine aw_imul X dL_law_52 rfl ?_
  refine aw_ishr X dL_law_53 rfl ?_
  refine aw_ist9 X dL_law_54 rfl (by decide) rfl ?_
  refine aw_ild9 X dL_law_56 rfl ?_
  refine aw_iconst X (4) dL_law_58 (by decide) rfl ?_
  refine aw_ishr X dL_law_59 rfl ?_
  refine aw_iconst X (5) dL_law_60 (by decide) rfl ?_
  refine aw_callS X dL_law_61 rfl (k_below X.1 _ (N := 5) rfl (by decide) (by decide)) cmL_below ml_L_18 rfl rfl (Nat.le_of_ble_eq_true rfl) ⟨Nat.le_of_ble_eq_true rfl, Nat.le_of_ble_eq_true rfl⟩ (fun r h2 hq hf => ?_)
  obtain ⟨f9, hf9, rfl, rfl⟩ := hq
  refine aw_ist10 X dL_law_64 rfl (by decide) rfl ?_
  refine aw_ald1 X dL_law_66 rfl ?_
  refine aw_ild10 X dL_law_67 rfl ?_
  refine aw_iconst X (3) dL_law_69 (by decide) rfl ?_
  refine aw_callV X dL_law_70 rfl (r_fig X.1 w rfl (hL.hf hf9) (by decide) (fv3 _ _ _)) cmX6_ofFigure ml_L_37 rfl w.1 rfl rfl (Nat.le_of_ble_eq_true rfl) ⟨Nat.le_of_ble_eq_true rfl, Nat.le_of_ble_eq_true rfl⟩ (aw_rs ?_)
  refine aw_ist11 X dL_law_73 rfl (by decide) rfl ?_
  refine aw_ald1 X dL_law_75 rfl ?_
  refine aw_ild10 X dL_law_76 rfl ?_
  refine aw_iconst X (4) dL_law_78 (by decide) rfl ?_
  refine aw_callV X dL_law_79 rfl (r_fig X.1 w rfl (hL.hf hf9) (by decide) (fv4 _ _ _)) cmX6_ofFigure ml_L_37 rfl w.1 rfl rfl (Nat.le_of_ble_eq_true rfl) ⟨Nat.le_of_ble_eq_true rfl, Nat.le_of_ble_eq_true rfl⟩ (aw_rs ?_)
  refine aw_ist12 X dL_law_82 rfl (by decide) rfl ?_
  refine aw_ald1 X dL_law_84 rfl ?_
  refine aw_iconst X (0) dL_law_85 (by decide) rfl ?_
  refine aw_callV X dL_law_86 rfl (r_man X.1 w (by decide) (man0 _)) cmX6_many ml_L_40 rfl w.1 rfl rfl (Nat.le_of_ble_eq_true rfl) ⟨Nat.le_of_ble_eq_true rfl, Nat.le_of_ble_eq_true rfl⟩ (aw_rs ?_)
  refine aw_ist13 X dL_law_89 rfl (by decide) rfl ?_
  refine aw_ild9 X dL_law_91 rfl ?_
  refine aw_bipush X (18) dL_law_93 (by decide) rfl ?_
  refine aw_callS X dL_law_95 rfl (k_below X.1 _ (N := 18) rfl (by decide) (by decide)) cmL_below ml_L_18 rfl rfl (Nat.le_of_ble_eq_true rfl) ⟨Nat.le_of_ble_eq_true rfl, Nat.le_of_ble_eq_true rfl⟩ (fun r h2 hq hf => ?_)
  obtain ⟨v9, hv9, rfl, rfl⟩ := hq
  by_cases s98_0 : (nI v9) = 0
  · refine aw_tswIn (n := 176) X 0 dL_law_98 (by rw [s98_0]; decide) (by decide) rfl rfl ?_
    exact ca_grip X w hL hf9 hwa hgw ez hsl9 hb hs (fun h2 A2 τ u2 u3 u4 u6 z14 z15 z16 z17 z18 st e2 e3 e4 e6 w2 hwa2 ez2 => lw_tail X hz0 hf9 st hL w2 hwa2 hgw ez2 e2 e3 e4 e6 (fun h3 A3 g3 z9 z10 z11 z12 z13 z14 z15 z16 z17 z18 w3 hwa3 hg3 ez3 => by
            rw [nI_1]
            exact kz h3 A3 τ g3 _ _ _ _ _ _ _ _ _ _ st.1 (sl_up hsl st.2.2) w3 hwa3 hg3 ez3))
  · skip
    by_cases s98_1 : (nI v9) = 1
    · refine aw_tswIn (n := 176) X 1 dL_law_98 (by rw [s98_1]; decide) (by decide) rfl rfl ?_
      exact ca_grip X w hL hf9 hwa hgw ez hsl9 hb hs (fun h2 A2 τ u2 u3 u4 u6 z14 z15 z16 z17 z18 st e2 e3 e4 e6 w2 hwa2 ez2 => lw_tail X hz0 hf9 st hL w2 hwa2 hgw ez2 e2 e3 e4 e6 (fun h3 A3 g3 z9 z10 z11 z12 z13 z14 z15 z16 z17 z18 w3 hwa3 hg3 ez3 => by
              rw [nI_1]
              exact kz h3 A3 τ g3 _ _ _ _ _ _ _ _ _ _ st.1 (sl_up hsl st.2.2) w3 hwa3 hg3 ez3))
    · skip
      by_cases s98_2 : (nI v9) = 2
      · refine aw_tswIn (n := 176) X 2 dL_law_98 (by rw [s98_2]; decide) (by decide) rfl rfl ?_
        exact ca_grip X w hL hf9 hwa hgw ez hsl9 hb hs (fun h2 A2 τ u2 u3 u4 u6 z14 z15 z16 z17 z18 st e2 e3 e4 e6 w2 hwa2 ez2 => lw_tail X hz0 hf9 st hL w2 hwa2 hgw ez2 e2 e3 e4 e6 (fun h3 A3 g3 z9 z10 z11 z12 z13 z14 z15 z16 z17 z18 w3 hwa3 hg3 ez3 => by
                rw [nI_1]
                exact kz h3 A3 τ g3 _ _ _ _ _ _ _ _ _ _ st.1 (sl_up hsl st.2.2) w3 hwa3 hg3 ez3))
      · skip
        by_cases s98_3 : (nI v9) = 3
        · refine aw_tswIn (n := 269) X 3 dL_law_98 (by rw [s98_3]; decide) (by decide) rfl rfl ?_
          exact ca_move X w hL hf9 hwa hgw ez hsl9 hb hs (fun h2 A2 τ u2 u3 u4 u6 z14 z15 z16 z17 z18 st e2 e3 e4 e6 w2 hwa2 ez2 => lw_tail X hz0 hf9 st hL w2 hwa2 hgw ez2 e2 e3 e4 e6 (fun h3 A3 g3 z9 z10 z11 z12 z13 z14 z15 z16 z17 z18 w3 hwa3 hg3 ez3 => by
                  rw [nI_1]
                  exact kz h3 A3 τ g3 _ _ _ _ _ _ _ _ _ _ st.1 (sl_up hsl st.2.2) w3 hwa3 hg3 ez3))
        · skip
          by_cases s98_4 : (nI v9) = 4
          · refine aw_tswIn (n := 269) X 4 dL_law_98 (by rw [s98_4]; decide) (by decide) rfl rfl ?_
            exact ca_move X w hL hf9 hwa hgw ez hsl9 hb hs (fun h2 A2 τ u2 u3 u4 u6 z14 z15 z16 z17 z18 st e2 e3 e4 e6 w2 hwa2 ez2 => lw_tail X hz0 hf9 st hL w2 hwa2 hgw ez2 e2 e3 e4 e6 (fun h3 A3 g3 z9 z10 z11 z12 z13 z14 z15 z16 z17 z18 w3 hwa3 hg3 ez3 => by
                    rw [nI_1]
                    exact kz h3 A3 τ g3 _ _ _ _ _ _ _ _ _ _ st.1 (sl_up hsl st.2.2) w3 hwa3 hg3 ez3))
          · skip
            by_cases s98_5 : (nI v9) = 5
            · refine aw_tswIn (n := 269) X 5 dL_law_98 (by rw [s98_5]; decide) (by decide) rfl rfl ?_
              exact ca_move X w hL hf9 hwa hgw ez hsl9 hb hs (fun h2 A2 τ u2 u3 u4 u6 z14 z15 z16 z17 z18 st e2 e3 e4 e6 w2 hwa2 ez2 => lw_tail X hz0 hf9 st hL w2 hwa2 hgw ez2 e2 e3 e4 e6 (fun h3 A3 g3 z9 z10 z11 z12 z13 z14 z15 z16 z17 z18 w3 hwa3 hg3 ez3 => by
                      rw [nI_1]
                      exact kz h3 A3 τ g3 _ _ _ _ _ _ _ _ _ _ st.1 (sl_up hsl st.2.2) w3 hwa3 hg3 ez3))
            · skip
              by_cases s98_6 : (nI v9) = 6
              · refine aw_tswIn (n := 397) X 6 dL_law_98 (by rw [s98_6]; decide) (by decide) rfl rfl ?_
                exact ca_lift X w hL hf9 hwa hgw ez hsl9 hb hs (fun h2 A2 τ u2 u3 u4 u6 z14 z15 z16 z17 z18 st e2 e3 e4 e6 w2 hwa2 ez2 => lw_tail X hz0 hf9 st hL w2 hwa2 hgw ez2 e2 e3 e4 e6 (fun h3 A3 g3 z9 z10 z11 z12 z13 z14 z15 z16 z17 z18 w3 hwa3 hg3 ez3 => by
                        rw [nI_1]
                        exact kz h3 A3 τ g3 _ _ _ _ _ _ _ _ _ _ st.1 (sl_up hsl st.2.2) w3 hwa3 hg3 ez3))
              · skip
                by_cases s98_7 : (nI v9) = 7
                · refine aw_tswIn (n := 431) X 7 dL_law_98 (by rw [s98_7]; decide) (by decide) rfl rfl ?_
                  exact ca_plant X w hL hf9 hwa hgw ez hsl9 hb hs (fun h2 A2 τ u2 u3 u4 u6 z14 z15 z16 z17 z18 st e2 e3 e4 e6 w2 hwa2 ez2 => lw_tail X hz0 hf9 st hL w2 hwa2 hgw ez2 e2 e3 e4 e6 (fun h3 A3 g3 z9 z10 z11 z12 z13 z14 z15 z16 z17 z18 w3 hwa3 hg3 ez3 => by
                          rw [nI_1]
                          exact kz h3 A3 τ g3 _ _ _ _ _ _ _ _ _ _ st.1 (sl_up hsl st.2.2) w3 hwa3 hg3 ez3))
                · skip
                  by_cases s98_8 : (nI v9) = 8
                  · refine aw_tswIn (n := 479) X 8 dL_law_98 (by rw [s98_8]; decide) (by decide) rfl rfl ?_
                    exact ca_hand X w hL hf9 hwa hgw ez hsl9 hb hs (fun h2 A2 τ u2 u3 u4 u6 z14 z15 z16 z17 z18 st e2 e3 e4 e6 w2 hwa2 ez2 => lw_tail X hz0 hf9 st hL w2 hwa2 hgw ez2 e2 e3 e4 e6 (fun h3 A3 g3 z9 z10 z11 z12 z13 z14 z15 z16 z17 z18 w3 hwa3 hg3 ez3 => by
                            rw [nI_1]
                            exact kz h3 A3 τ g3 _ _ _ _ _ _ _ _ _ _ st.1 (sl_up hsl st.2.2) w3 hwa3 hg3 ez3))
                  · skip
                    by_cases s98_9 : (nI v9) = 9
                    · refine aw_tswIn (n := 539) X 9 dL_law_98 (by rw [s98_9]; decide) (by decide) rfl rfl ?_
                      exact ca_away X w hL hf9 hwa hgw ez hsl9 hb hs (fun h2 A2 τ u2 u3 u4 u6 z14 z15 z16 z17 z18 st e2 e3 e4 e6 w2 hwa2 ez2 => lw_tail X hz0 hf9 st hL w2 hwa2 hgw ez2 e2 e3 e4 e6 (fun h3 A3 g3 z9 z10 z11 z12 z13 z14 z15 z16 z17 z18 w3 hwa3 hg3 ez3 => by
                              rw [nI_1]
                              exact kz h3 A3 τ g3 _ _ _ _ _ _ _ _ _ _ st.1 (sl_up hsl st.2.2) w3 hwa3 hg3 ez3))
                    · skip
                      by_cases s98_10 : (nI v9) = 10
                      · refine aw_tswIn (n := 606) X 10 dL_law_98 (by rw [s98_10]; decide) (by decide) rfl rfl ?_
                        exact ca_tap X w hL hf9 hwa hgw ez hsl9 hb hs (fun h2 A2 τ u2 u3 u4 u6 z14 z15 z16 z17 z18 st e2 e3 e4 e6 w2 hwa2 ez2 => lw_tail X hz0 hf9 st hL w2 hwa2 hgw ez2 e2 e3 e4 e6 (fun h3 A3 g3 z9 z10 z11 z12 z13 z14 z15 z16 z17 z18 w3 hwa3 hg3 ez3 => by
                                rw [nI_1]
                                exact kz h3 A3 τ g3 _ _ _ _ _ _ _ _ _ _ st.1 (sl_up hsl st.2.2) w3 hwa3 hg3 ez3))
                      · skip
                        by_cases s98_11 : (nI v9) = 11
                        · refine aw_tswIn (n := 606) X 11 dL_law_98 (by rw [s98_11]; decide) (by decide) rfl rfl ?_
                          exact ca_tap X w hL hf9 hwa hgw ez hsl9 hb hs (fun h2 A2 τ u2 u3 u4 u6 z14 z15 z16 z17 z18 st e2 e3 e4 e6 w2 hwa2 ez2 => lw_tail X hz0 hf9 st hL w2 hwa2 hgw ez2 e2 e3 e4 e6 (fun h3 A3 g3 z9 z10 z11 z12 z13 z14 z15 z16 z17 z18 w3 hwa3 hg3 ez3 => by
                                  rw [nI_1]
                                  exact kz h3 A3 τ g3 _ _ _ _ _ _ _ _ _ _ st.1 (sl_up hsl st.2.2) w3 hwa3 hg3 ez3))
                        · skip
                          by_cases s98_12 : (nI v9) = 12
                          · refine aw_tswIn (n := 731) X 12 dL_law_98 (by rw [s98_12]; decide) (by decide) rfl rfl ?_
                            exact ca_speak X w hL hf9 hwa hgw ez hsl9 hb hs (fun h2 A2 τ u2 u3 u4 u6 z14 z15 z16 z17 z18 st e2 e3 e4 e6 w2 hwa2 ez2 => lw_tail X hz0 hf9 st hL w2 hwa2 hgw ez2 e2 e3 e4 e6 (fun h3 A3 g3 z9 z10 z11 z12 z13 z14 z15 z16 z17 z18 w3 hwa3 hg3 ez3 => by
                                    rw [nI_1]
                                    exact kz h3 A3 τ g3 _ _ _ _ _ _ _ _ _ _ st.1 (sl_up hsl st.2.2) w3 hwa3 hg3 ez3))
                          · skip
                            by_cases s98_13 : (nI v9) = 13
                            · refine aw_tswIn (n := 894) X 13 dL_law_98 (by rw [s98_13]; decide) (by decide) rfl rfl ?_
                              exact ca_joke X w hL hf9 hwa hgw ez hsl9 hb hs (fun h2 A2 τ u2 u3 u4 u6 z14 z15 z16 z17 z18 st e2 e3 e4 e6 w2 hwa2 ez2 => lw_tail X hz0 hf9 st hL w2 hwa2 hgw ez2 e2 e3 e4 e6 (fun h3 A3 g3 z9 z10 z11 z12 z13 z14 z15 z16 z17 z18 w3 hwa3 hg3 ez3 => by
                                      rw [nI_1]
                                      exact kz h3 A3 τ g3 _ _ _ _ _ _ _ _ _ _ st.1 (sl_up hsl st.2.2) w3 hwa3 hg3 ez3))
                            · skip
                              by_cases s98_14 : (nI v9) = 14
                              · refine aw_tswIn (n := 977) X 14 dL_law_98 (by rw [s98_14]; decide) (by decide) rfl rfl ?_
                                exact ca_offer X w hL hf9 hwa hgw ez hsl9 hb hs (fun h2 A2 τ u2 u3 u4 u6 z14 z15 z16 z17 z18 st e2 e3 e4 e6 w2 hwa2 ez2 => lw_tail X hz0 hf9 st hL w2 hwa2 hgw ez2 e2 e3 e4 e6 (fun h3 A3 g3 z9 z10 z11 z12 z13 z14 z15 z16 z17 z18 w3 hwa3 hg3 ez3 => by
                                        rw [nI_1]
                                        exact kz h3 A3 τ g3 _ _ _ _ _ _ _ _ _ _ st.1 (sl_up hsl st.2.2) w3 hwa3 hg3 ez3))
                              · skip
                                by_cases s98_15 : (nI v9) = 15
                                · refine aw_tswIn (n := 1026) X 15 dL_law_98 (by rw [s98_15]; decide) (by decide) rfl rfl ?_
                                  exact ca_lamp X w hL hf9 hwa hgw ez hsl9 hb hs (fun h2 A2 τ u2 u3 u4 u6 z14 z15 z16 z17 z18 st e2 e3 e4 e6 w2 hwa2 ez2 => lw_tail X hz0 hf9 st hL w2 hwa2 hgw ez2 e2 e3 e4 e6 (fun h3 A3 g3 z9 z10 z11 z12 z13 z14 z15 z16 z17 z18 w3 hwa3 hg3 ez3 => by
                                          rw [nI_1]
                                          exact kz h3 A3 τ g3 _ _ _ _ _ _ _ _ _ _ st.1 (sl_up hsl st.2.2) w3 hwa3 hg3 ez3))
                                · skip
                                  refine aw_tswOut (n := 1075) X dL_law_98 (tsw_out (fun q h1 h2 e => by
                                    have hq : q = 0 ∨ q = 1 ∨ q = 2 ∨ q = 3 ∨ q = 4 ∨ q = 5 ∨ q = 6 ∨ q = 7 ∨ q = 8 ∨ q = 9 ∨ q = 10 ∨ q = 11 ∨ q = 12 ∨ q = 13 ∨ q = 14 ∨ q = 15 := by omega
                                    rcases hq with rfl | rfl | rfl | rfl | rfl | rfl | rfl | rfl | rfl | rfl | rfl | rfl | rfl | rfl | rfl | rfl
                                    · exact s98_0 e
                                    · exact s98_1 e
                                    · exact s98_2 e
                                    · exact s98_3 e
                                    · exact s98_4 e
                                    · exact s98_5 e
                                    · exact s98_6 e
                                    · exact s98_7 e
                                    · exact s98_8 e
                                    · exact s98_9 e
                                    · exact s98_10 e
                                    · exact s98_11 e
                                    · exact s98_12 e
                                    · exact s98_13 e
                                    · exact s98_14 e
                                    · exact s98_15 e)) rfl ?_
                                  exact ca_pass X w hL hf9 hwa hgw ez hsl9 hb hs (fun h2 A2 τ u2 u3 u4 u6 z14 z15 z16 z17 z18 st e2 e3 e4 e6 w2 hwa2 ez2 => lw_tail X hz0 hf9 st hL w2 hwa2 hgw ez2 e2 e3 e4 e6 (fun h3 A3 g3 z9 z10 z11 z12 z13 z14 z15 z16 z17 z18 w3 hwa3 hg3 ez3 => by
                                          rw [nI_1]
                                          exact kz h3 A3 τ g3 _ _ _ _ _ _ _ _ _ _ st.1 (sl_up hsl st.2.2) w3 hwa3 hg3 ez3))

set_option maxHeartbeats 4000000 in
set_option maxRecDepth 100000 in
theorem law_loop {p : Program} {l : Launch} {e : Env} {s : State} {m : MethodId} {below : List Frame} {meth : Method} {c : Code} {Q : State → Prop} {a0 : Array Value} {G : GG} {h0 : AH} {b ke wa : Nat} (X : MX p l s m meth c s a0 G cL_law "KelirnightLaw" 19) (hz0 : ∀ b t x, h0 b = some (t, x) → t = 0) {L : Nat} {xs : Nat → Int32} (S : SX s b L xs) (hL9 : L ≤ 260) (hend : ∀ (h : AH) (A : KA) (σ : NS) (bc bs : Nat) (y9 y10 y11 y12 y13 y14 y15 y16 y17 y18 : Option Value), LQ σ → KelW G h 1 ke A σ → AW p l e room_1 s m #[.ref b] below meth c Q s G 19 1 h0 h bc bs 1302 [some (.ref b), some (.ref ke), some (.int (σ.ms)), some (.int (σ.sl)), some (.int (σ.off)), some (.int (σ.o 4)), some (.int (σ.di)), some (.ref wa), some (.int (nI 80)), y9, y10, y11, y12, y13, y14, y15, y16, y17, y18] []) : ∀ (j t : Nat), j + t = 80 → ∀ (h : AH) (A : KA) (σ : NS) (gw : Nat → Int32) (bc bs : Nat) (y9 y10 y11 y12 y13 y14 y15 y16 y17 y18 : Option Value), LQ σ → (∃ i, i ≤ t ∧ σ.sl = nI i) → KelW G h 1 ke A σ → h wa = some (3, .inl (0, 5, .inl gw)) → (∀ k, k < 5 → gw k = σ.F k 2) → h (G.2.2 0) = some (0, oArr 0 (fun _ => none)) → j ≤ bc → 6 * j ≤ bs → AW p l e room_1 s m #[.ref b] below meth c Q s G 19 1 h0 h bc bs 27 [some (.ref b), some (.ref ke), some (.int (σ.ms)), some (.int (σ.sl)), some (.int (σ.off)), some (.int (σ.o 4)), some (.int (σ.di)), some (.ref wa), some (.int (nI t)), y9, y10, y11, y12, y13, y14, y15, y16, y17, y18] [] := by
  intro j
  induction j with
  | zero =>
    intro t hjt h A σ gw bc bs y9 y10 y11 y12 y13 y14 y15 y16 y17 y18 hL hsl w hwa hgw ez hb hs
    obtain rfl : t = 80 := by omega
    refine aw_ild8 X dL_law_27 rfl ?_
    refine aw_bipush X (80) dL_law_29 (by decide) rfl ?_
    refine aw_icmp_ge (n2 := 1302) X dL_law_31 rfl rfl (fun _ => ?_) (fun c9 => absurd (by decide) c9)
    exact hend h A σ bc bs _ _ _ _ _ _ _ _ _ _ hL w
  | succ j ih =>
    intro t hjt h A σ gw bc bs y9 y10 y11 y12 y13 y14 y15 y16 y17 y18 hL hsl w hwa hgw ez hb hs
    exact law_step X hz0 S hL9 (bc := bc - 1) (bs := bs - 6) hL (by omega) hsl w hwa hgw ez (by omega) (by omega) (fun h2 A2 τ g2 z9 z10 z11 z12 z13 z14 z15 z16 z17 z18 l2 s2 w2 hwa2 hg2 ez2 => ih (t + 1) (by omega) h2 A2 τ g2 (bc - 1) (bs - 6) _ _ _ _ _ _ _ _ _ _ l2 s2 w2 hwa2 hg2 ez2 (by omega) (by omega))

set_option maxHeartbeats 4000000 in
set_option maxRecDepth 100000 in
theorem law_end {p : Program} {l : Launch} {e : Env} {s : State} {m : MethodId} {below : List Frame} {meth : Method} {c : Code} {Q : State → Prop} {a0 : Array Value} {G : GG} {h0 : AH} {b ke wa : Nat} (X : MX p l s m meth c s a0 G cL_law "KelirnightLaw" 19) (hz0 : ∀ b t x, h0 b = some (t, x) → t = 0) {h : AH} {bc bs : Nat} {A : KA} {σ : NS} (hL : LQ σ) (w : KelW G h 1 ke A σ) {y9 y10 y11 y12 y13 y14 y15 y16 y17 y18 : Option Value} (hfin : ∀ (h : AH) (bc bs : Nat) (L9 : List (Option Value)), AW p l e room_1 s m #[.ref b] below meth c Q s G 19 1 h0 h bc bs 1332 L9 [.int 1]) : AW p l e room_1 s m #[.ref b] below meth c Q s G 19 1 h0 h bc bs 1302 [some (.ref b), some (.ref ke), some (.int (σ.ms)), some (.int (σ.sl)), some (.int (σ.off)), some (.int (σ.o 4)), some (.int (σ.di)), some (.ref wa), some (.int (nI 80)), y9, y10, y11, y12, y13, y14, y15, y16, y17, y18] [] := by
  refine aw_ald1 X dL_law_1302 rfl ?_
  refine aw_callV X dL_law_1303 rfl (k_X6_digest X.1 (by decide) w) cmX6_digest ml_L_102 rfl w.1 rfl rfl (Nat.le_of_ble_eq_true rfl) ⟨Nat.le_of_ble_eq_true rfl, Nat.le_of_ble_eq_true rfl⟩ (fun r h2 hq hf => ?_)
  obtain ⟨rfl, A2, w2⟩ := hq
  refine aw_lst8 X dL_law_1306 rfl (by decide) rfl ?_
  refine aw_ald1 X dL_law_1308 rfl ?_
  refine aw_ild6 X dL_law_1309 rfl ?_
  refine aw_callS X dL_law_1311 rfl (k_isSo X.1 (by decide) w2 hL.1 hL.2.1 hL.2.2.1) cmL_isSo ml_L_98 rfl rfl (Nat.le_of_ble_eq_true rfl) ⟨Nat.le_of_ble_eq_true rfl, Nat.le_of_ble_eq_true rfl⟩ (fun r h3 hq hf => ?_)
  obtain ⟨rfl, A3, w3⟩ := hq
  refine aw_if_eq (n2 := 1331) X dL_law_1314 rfl rfl (fun c1314 => absurd c1314 (by decide)) (fun c1314 => ?_)
  refine aw_ald1 X dL_law_1317 rfl ?_
  refine aw_callV X dL_law_1318 rfl (k_X6_digest X.1 (by decide) w3) cmX6_digest ml_L_102 rfl w3.1 rfl rfl (Nat.le_of_ble_eq_true rfl) ⟨Nat.le_of_ble_eq_true rfl, Nat.le_of_ble_eq_true rfl⟩ (fun r h4 hq hf => ?_)
  obtain ⟨rfl, A4, w4⟩ := hq
  refine aw_lld8 X dL_law_1321 rfl ?_
  refine aw_lcmp X dL_law_1323 rfl ?_
  refine aw_if_ne (n2 := 1331) X dL_law_1324 rfl rfl (fun c1324 => absurd (lgc_eq rfl) c1324) (fun c1324 => ?_)
  refine aw_iconst X (1) dL_law_1327 (by decide) rfl ?_
  refine aw_goto (n := 1332) X dL_law_1328 rfl ?_
  exact hfin _ _ _ _

set_option maxHeartbeats 4000000 in
set_option maxRecDepth 100000 in
theorem law_start {p : Program} {l : Launch} {e : Env} {s : State} {m : MethodId} {below : List Frame} {meth : Method} {c : Code} {Q : State → Prop} {a0 : Array Value} {G : GG} {h0 : AH} {b : Nat} (X : MX p l s m meth c s a0 G cL_law "KelirnightLaw" 19) (hz0 : ∀ b t x, h0 b = some (t, x) → t = 0) {L : Nat} {xs : Nat → Int32} (S : SX s b L xs) (hL9 : L ≤ 260) (ez0 : h0 (G.2.2 0) = some (0, oArr 0 (fun _ => none))) (hfin : ∀ (h : AH) (bc bs : Nat) (L9 : List (Option Value)), AW p l e room_1 s m #[.ref b] below meth c Q s G 19 1 h0 h bc bs 1332 L9 [.int 1]) : AW p l e room_1 s m #[.ref b] below meth c Q s G 19 1 h0 h0 126 953 0 [some (.ref b), none, none, none, none, none, none, none, none, none, none, none, none, none, none, none, none, none, none] [] := by
  obtain ⟨b0, hb0⟩ : ∃ z, z = 80 := ⟨80, rfl⟩
  obtain ⟨d0, hd0⟩ : ∃ z, z = 480 := ⟨480, rfl⟩
  obtain ⟨b1, hb1⟩ : ∃ z, z = b0 + 1 := ⟨_, rfl⟩
  obtain ⟨d1, hd1⟩ : ∃ z, z = d0 + 5 := ⟨_, rfl⟩
  refine AW.mono (bc2 := b1 + 45) (bs2 := d1 + 468) (by omega) (by omega) ?_
  refine aw_ald0 X dL_law_0 rfl ?_
  refine aw_callS X dL_law_1 rfl (k_L_night X.1 (by decide) S hL9 ez0) cmL_night ml_L_33 rfl rfl (Nat.le_of_ble_eq_true rfl) ⟨Nat.le_of_ble_eq_true rfl, Nat.le_of_ble_eq_true rfl⟩ (fun r h2 hq hf => ?_)
  obtain ⟨ke, A, σ, rfl, w, hN⟩ := hq
  have ez := hf.1 _ _ _ ez0 (by decide)
  refine aw_ast1 X dL_law_4 rfl (by decide) rfl ?_
  refine aw_iconst X (0) dL_law_5 (by decide) rfl ?_
  refine aw_ist2 X dL_law_6 rfl (by decide) rfl ?_
  refine aw_iconst X (0) dL_law_7 (by decide) rfl ?_
  refine aw_ist3 X dL_law_8 rfl (by decide) rfl ?_
  refine aw_iconst X (0) dL_law_9 (by decide) rfl ?_
  refine aw_ist4 X dL_law_10 rfl (by decide) rfl ?_
  refine aw_iconst X (0) dL_law_12 (by decide) rfl ?_
  refine aw_ist5 X dL_law_13 rfl (by decide) rfl ?_
  refine aw_bipush X (50) dL_law_15 (by decide) rfl ?_
  refine aw_ist6 X dL_law_17 rfl (by decide) rfl ?_
  refine aw_iconst X (5) dL_law_19 (by decide) rfl ?_
  refine aw_tg (tg2 := 3) hz0 (by decide) ?_
  refine AW.mono (bc2 := b0 + 1) (bs2 := d0 + 5) (Nat.le_of_eq hb1.symm) (Nat.le_of_eq hd1.symm) ?_
  refine aw_newi X dL_law_20 rfl (show (5 : Int32) = nI 5 from rfl) (by decide) ac_int (fun q20 hq20 => ?_)
  refine aw_tg (tg2 := 1) hz0 (by decide) ?_
  refine aw_ast7 X dL_law_22 rfl (by decide) rfl ?_
  refine aw_iconst X (0) dL_law_24 (by decide) rfl ?_
  refine aw_ist8 X dL_law_25 rfl (by decide) rfl ?_
  have w3 := w.tagK (h2 := hu h2 q20 (3, .inl (0, 5, .inl (fun _ => 0)))) (fun a x e => hu_k hq20 e) ((hu_k hq20 ez).trans ez.symm)
  obtain ⟨n1, n2, n3, n4, n5, n6, n7, n8⟩ := hN
  have em : σ.ms = 0 := by
    show σ.v 4 = 0
    rw [n6]
    rfl
  have esl : σ.sl = 0 := by
    show σ.v 5 = 0
    rw [n6]
    rfl
  have eof : σ.off = 0 := by
    show σ.v 6 = 0
    rw [n6]
    rfl
  have eo4 : σ.o 4 = 0 := by
    rw [n7]
    rfl
  have K := law_loop (Q := Q) (below := below) (e := e) X hz0 S hL9 (fun h A σ bc bs y9 y10 y11 y12 y13 y14 y15 y16 y17 y18 hL w => law_end X hz0 hL w hfin) 80 0 rfl (hu h2 q20 (3, .inl (0, 5, .inl (fun _ => 0)))) A σ (fun _ => 0) b0 d0 none none none none none none none none none none ⟨n1, n2, n3, n4⟩ ⟨0, Nat.le_refl _, esl⟩ w3 hu_s (fun k hk => (n8 k hk).symm) (hu_k hq20 ez) (by omega) (by omega)
  rw [em, esl, eof, eo4, n5] at K
  exact K
