/-! ===== the cases of the law ===== -/
/-- what stands in the law throughout -/
def lw_ok (w : g_W) (x : g_C) (b Ls : Nat) (xs : Nat → Int32) : Prop := g_OK w x cL_law 7 (some .boolean) RL 2048 ∧ va_X b Ls xs (g_s x) (g_s x).heap ∧ b < g_sz x ∧ b < w.2.2.2.1 ∧ Ls ≤ 3072 ∧ gx_ok (g_s x) ∧ w.1.stackTraces = false
abbrev lw_L (w : g_W) (b : Nat) (i : Int) : List (Option Value) := [some (.ref b), some (gvr w 0), some (gvr w 703), some (gvr w 728), some (gvI i), none, none]
/-- a case's end: the loop goes on -/
def lw_K (w : g_W) (x : g_C) (P : State → Prop) (u v b : Nat) (i : Int) : Prop := ∀ (u2 v2 : Nat) (A2 : g_I) (J2 : g_J) (R2 : g_R), u2 ≤ u + 1 → v2 ≤ v + 6 → k_end w A2 R2 → GQ w x P u2 v2 g_n A2 J2 R2 1724 (lw_L w b i) []
section LCASE
variable {w : g_W} {x : g_C} {P : State → Prop} {u v : Nat} {A : g_I} {J : g_J} {R : g_R} {b Ls : Nat} {xs : Nat → Int32} {i : Int} {lb tx : Nat}
set_option maxHeartbeats 4000000 in
set_option maxRecDepth 100000 in
theorem L_0 (H : lw_ok w x b Ls xs) (hi : 0 ≤ i ∧ i + 6 ≤ (Ls : Int)) (hu : u + 1 ≤ x.2.2.2.2.2.2.2.2.2.1 ∧ v + 6 ≤ x.2.2.2.2.2.2.2.2.2.2) (hr : g_rf w R lb tx) (hq : q_inv A lb) (kk : lw_K w x P u v b i) : GQ w x P u v g_n A J R 236 (lw_L w b i) [] := by
  obtain ⟨hc, hX, hbl, hbA, hLs, hgx, hst⟩ := H
  have hu0 : u + 0 ≤ x.2.2.2.2.2.2.2.2.2.1 ∧ v + 0 ≤ x.2.2.2.2.2.2.2.2.2.2 := ⟨by omega, by omega⟩
  obtain ⟨⟨clb, cg, cin, ctb⟩, cck, clv, cll, clt, cac, cbr, cim, c77, ctp, ckl, c43⟩ := q_inv_cls hq
  have clk := hq.2.2.2.2.2.2.1
  have c552 := hq.2.2.2.2.2.2.2.2.2
  refine gq_aldn hc dL_law_236 rfl ?_
  refine gq_aload_n hc dL_law_237 rfl ?_
  refine gq_iload hc dL_law_238 rfl ?_
  refine gq_iconst hc dL_law_240 ?_
  refine gq_iadd hc dL_law_241 ?_
  refine gq_sld hc hX hbl hbA (by omega) (by omega) (by omega) dL_law_242 ?_
  refine gq_aload_n hc dL_law_243 rfl ?_
  refine gq_iload hc dL_law_244 rfl ?_
  refine gq_iconst hc dL_law_246 ?_
  refine gq_iadd hc dL_law_247 ?_
  refine gq_sld hc hX hbl hbA (by omega) (by omega) (by omega) dL_law_248 ?_
  refine gq_aload_n hc dL_law_249 rfl ?_
  refine gq_iload hc dL_law_250 rfl ?_
  refine gq_iconst hc dL_law_252 ?_
  refine gq_iadd hc dL_law_253 ?_
  refine gq_sld hc hX hbl hbA (by omega) (by omega) (by omega) dL_law_254 ?_
  refine gq_aload_n hc dL_law_255 rfl ?_
  refine gq_iload hc dL_law_256 rfl ?_
  refine gq_iconst hc dL_law_258 ?_
  refine gq_iadd hc dL_law_259 ?_
  refine gq_sld hc hX hbl hbA (by omega) (by omega) (by omega) dL_law_260 ?_
  refine gq_aload_n hc dL_law_261 rfl ?_
  refine gq_iload hc dL_law_262 rfl ?_
  refine gq_iconst hc dL_law_264 ?_
  refine gq_iadd hc dL_law_265 ?_
  refine gq_sld hc hX hbl hbA (by omega) (by omega) (by omega) dL_law_266 ?_
  refine gq_callV (as := [gvI (lw_i xs (i + 1)), gvI (lw_i xs (i + 2)), gvI (lw_i xs (i + 3)), gvI (lw_i xs (i + 4)), gvI (lw_i xs (i + 5))]) hc (c_X12_feed w hr cg ctp lw_i32 lw_i32 lw_i32 lw_i32 lw_i32) my_X12_feed mv_X12_feed ca_0 rfl rfl lm_L_19 rfl rfl (by decide) (by decide) (Nat.le_of_ble_eq_true rfl) hu0 dL_law_267 (fun r1 n1 A1 J1 R1 h1 => ?_)
  obtain ⟨rfl, rfl, hA1, rfl, rfl⟩ := h1
  have hk := k_hi_feed (a := (lw_i xs (i + 1))) (b := (lw_i xs (i + 2))) (c := (lw_i xs (i + 3))) (d := (lw_i xs (i + 4))) (e := (lw_i xs (i + 5))) hq
  rw [← hA1] at hk
  have g1 := hk.2
  obtain ⟨hm, hu2, hbr, hi2, htp, ⟨hz3, hz7, hz6⟩, h705⟩ := q_inv_ref hq hk.1 hk.2
  refine gq_aldn hc dL_law_270 rfl ?_
  refine gq_aload_n hc dL_law_271 rfl ?_
  refine gq_iload hc dL_law_272 rfl ?_
  refine gq_iconst hc dL_law_274 ?_
  refine gq_iadd hc dL_law_275 ?_
  refine gq_sld hc hX hbl hbA (by omega) (by omega) (by omega) dL_law_276 ?_
  refine gq_aload_n hc dL_law_277 rfl ?_
  refine gq_iload hc dL_law_278 rfl ?_
  refine gq_iconst hc dL_law_280 ?_
  refine gq_iadd hc dL_law_281 ?_
  refine gq_sld hc hX hbl hbA (by omega) (by omega) (by omega) dL_law_282 ?_
  refine gq_aload_n hc dL_law_283 rfl ?_
  refine gq_iload hc dL_law_284 rfl ?_
  refine gq_iconst hc dL_law_286 ?_
  refine gq_iadd hc dL_law_287 ?_
  refine gq_sld hc hX hbl hbA (by omega) (by omega) (by omega) dL_law_288 ?_
  refine gq_aload_n hc dL_law_289 rfl ?_
  refine gq_iload hc dL_law_290 rfl ?_
  refine gq_iconst hc dL_law_292 ?_
  refine gq_iadd hc dL_law_293 ?_
  refine gq_sld hc hX hbl hbA (by omega) (by omega) (by omega) dL_law_294 ?_
  refine gq_aload_n hc dL_law_295 rfl ?_
  refine gq_iload hc dL_law_296 rfl ?_
  refine gq_iconst hc dL_law_298 ?_
  refine gq_iadd hc dL_law_299 ?_
  refine gq_sld hc hX hbl hbA (by omega) (by omega) (by omega) dL_law_300 ?_
  refine gq_callV (as := [gvI (lw_i xs (i + 1)), gvI (lw_i xs (i + 2)), gvI (lw_i xs (i + 3)), gvI (lw_i xs (i + 4)), gvI (lw_i xs (i + 5))]) hc (c_X13_feed w hr g1 lw_i32 lw_i32 lw_i32 lw_i32 lw_i32 htp) my_X13_feed mv_X13_feed ca_703 rfl rfl lm_L_23 rfl rfl (by decide) (by decide) (Nat.le_of_ble_eq_true rfl) hu0 dL_law_301 (fun r2 n2 A2 J2 R2 h2 => ?_)
  obtain rfl := h2.1.1
  obtain rfl := h2.1.2.1
  refine gq_icmp_same (tgt := 1724) hc dL_law_304 (by decide) ?_
  subst hA1
  exact kk _ _ _ _ _ (by omega) (by omega) (k_feed hr hq h2)
set_option maxHeartbeats 4000000 in
set_option maxRecDepth 100000 in
theorem L_1 (H : lw_ok w x b Ls xs) (hi : 0 ≤ i ∧ i + 6 ≤ (Ls : Int)) (hu : u + 1 ≤ x.2.2.2.2.2.2.2.2.2.1 ∧ v + 6 ≤ x.2.2.2.2.2.2.2.2.2.2) (hr : g_rf w R lb tx) (hq : q_inv A lb) (kk : lw_K w x P u v b i) : GQ w x P u v g_n A J R 309 (lw_L w b i) [] := by
  obtain ⟨hc, hX, hbl, hbA, hLs, hgx, hst⟩ := H
  have hu0 : u + 0 ≤ x.2.2.2.2.2.2.2.2.2.1 ∧ v + 0 ≤ x.2.2.2.2.2.2.2.2.2.2 := ⟨by omega, by omega⟩
  obtain ⟨⟨clb, cg, cin, ctb⟩, cck, clv, cll, clt, cac, cbr, cim, c77, ctp, ckl, c43⟩ := q_inv_cls hq
  have clk := hq.2.2.2.2.2.2.1
  have c552 := hq.2.2.2.2.2.2.2.2.2
  refine gq_aldn hc dL_law_309 rfl ?_
  refine gq_aload_n hc dL_law_310 rfl ?_
  refine gq_iload hc dL_law_311 rfl ?_
  refine gq_iconst hc dL_law_313 ?_
  refine gq_iadd hc dL_law_314 ?_
  refine gq_sld hc hX hbl hbA (by omega) (by omega) (by omega) dL_law_315 ?_
  refine gq_callV (as := [gvI (lw_i xs (i + 1))]) hc (c_X12_end w hr clb cg cin ctb lw_i32) my_X12_end mv_X12_end ca_0 rfl rfl lm_L_24 rfl rfl (by decide) (by decide) (Nat.le_of_ble_eq_true rfl) hu0 dL_law_316 (fun r1 n1 A1 J1 R1 h1 => ?_)
  obtain ⟨rfl, rfl, hA1, rfl, rfl⟩ := h1
  have hk := k_hi_end (n := (lw_i xs (i + 1))) hq
  rw [← hA1] at hk
  have g1 := hk.2
  obtain ⟨hm, hu2, hbr, hi2, htp, ⟨hz3, hz7, hz6⟩, h705⟩ := q_inv_ref hq hk.1 hk.2
  refine gq_aldn hc dL_law_319 rfl ?_
  refine gq_aload_n hc dL_law_320 rfl ?_
  refine gq_iload hc dL_law_321 rfl ?_
  refine gq_iconst hc dL_law_323 ?_
  refine gq_iadd hc dL_law_324 ?_
  refine gq_sld hc hX hbl hbA (by omega) (by omega) (by omega) dL_law_325 ?_
  refine gq_callV (as := [gvI (lw_i xs (i + 1))]) hc (c_X13_end w hr g1 lw_i32 htp) my_X13_end mv_X13_end ca_703 rfl rfl lm_L_28 rfl rfl (by decide) (by decide) (Nat.le_of_ble_eq_true rfl) hu0 dL_law_326 (fun r2 n2 A2 J2 R2 h2 => ?_)
  obtain rfl := h2.1.1
  obtain rfl := h2.1.2.1
  refine gq_icmp_same (tgt := 1724) hc dL_law_329 (by decide) ?_
  subst hA1
  exact kk _ _ _ _ _ (by omega) (by omega) (k_ended hr hq h2)
set_option maxHeartbeats 4000000 in
set_option maxRecDepth 100000 in
theorem L_2 (H : lw_ok w x b Ls xs) (hi : 0 ≤ i ∧ i + 6 ≤ (Ls : Int)) (hu : u + 1 ≤ x.2.2.2.2.2.2.2.2.2.1 ∧ v + 6 ≤ x.2.2.2.2.2.2.2.2.2.2) (hr : g_rf w R lb tx) (hq : q_inv A lb) (kk : lw_K w x P u v b i) : GQ w x P u v g_n A J R 334 (lw_L w b i) [] := by
  obtain ⟨hc, hX, hbl, hbA, hLs, hgx, hst⟩ := H
  have hu0 : u + 0 ≤ x.2.2.2.2.2.2.2.2.2.1 ∧ v + 0 ≤ x.2.2.2.2.2.2.2.2.2.2 := ⟨by omega, by omega⟩
  obtain ⟨⟨clb, cg, cin, ctb⟩, cck, clv, cll, clt, cac, cbr, cim, c77, ctp, ckl, c43⟩ := q_inv_cls hq
  have clk := hq.2.2.2.2.2.2.1
  have c552 := hq.2.2.2.2.2.2.2.2.2
  refine gq_aldn hc dL_law_334 rfl ?_
  refine gq_aload_n hc dL_law_335 rfl ?_
  refine gq_iload hc dL_law_336 rfl ?_
  refine gq_iconst hc dL_law_338 ?_
  refine gq_iadd hc dL_law_339 ?_
  refine gq_sld hc hX hbl hbA (by omega) (by omega) (by omega) dL_law_340 ?_
  refine gq_callV (as := [gvI (lw_i xs (i + 1))]) hc (c_X12_fault w hr clk clv clt lw_i32) my_X12_fault mv_X12_fault ca_0 rfl rfl lm_L_29 rfl rfl (by decide) (by decide) (Nat.le_of_ble_eq_true rfl) hu0 dL_law_341 (fun r1 n1 A1 J1 R1 h1 => ?_)
  obtain ⟨rfl, rfl, hA1, rfl, rfl⟩ := h1
  have hk := k_rd_hi hq (k_rd (v := (lw_i xs (i + 1))) hq)
  rw [← hA1] at hk
  have g1 := hk.2
  obtain ⟨hm, hu2, hbr, hi2, htp, ⟨hz3, hz7, hz6⟩, h705⟩ := q_inv_ref hq hk.1 hk.2
  refine gq_aldn hc dL_law_344 rfl ?_
  refine gq_aload_n hc dL_law_345 rfl ?_
  refine gq_iload hc dL_law_346 rfl ?_
  refine gq_iconst hc dL_law_348 ?_
  refine gq_iadd hc dL_law_349 ?_
  refine gq_sld hc hX hbl hbA (by omega) (by omega) (by omega) dL_law_350 ?_
  refine gq_callV (as := [gvI (lw_i xs (i + 1))]) hc (c_X13_fault w hr g1 clk htp clv lw_i32) my_X13_fault mv_X13_fault ca_703 rfl rfl lm_L_33 rfl rfl (by decide) (by decide) (Nat.le_of_ble_eq_true rfl) hu0 dL_law_351 (fun r2 n2 A2 J2 R2 h2 => ?_)
  obtain rfl := h2.1
  obtain rfl := h2.2.1
  refine gq_icmp_same (tgt := 1724) hc dL_law_354 (by decide) ?_
  subst hA1
  exact kk _ _ _ _ _ (by omega) (by omega) (k_fault hq h2)
set_option maxHeartbeats 4000000 in
set_option maxRecDepth 100000 in
theorem L_3 (H : lw_ok w x b Ls xs) (hi : 0 ≤ i ∧ i + 6 ≤ (Ls : Int)) (hu : u + 1 ≤ x.2.2.2.2.2.2.2.2.2.1 ∧ v + 6 ≤ x.2.2.2.2.2.2.2.2.2.2) (hr : g_rf w R lb tx) (hq : q_inv A lb) (kk : lw_K w x P u v b i) : GQ w x P u v g_n A J R 359 (lw_L w b i) [] := by
  obtain ⟨hc, hX, hbl, hbA, hLs, hgx, hst⟩ := H
  have hu0 : u + 0 ≤ x.2.2.2.2.2.2.2.2.2.1 ∧ v + 0 ≤ x.2.2.2.2.2.2.2.2.2.2 := ⟨by omega, by omega⟩
  obtain ⟨⟨clb, cg, cin, ctb⟩, cck, clv, cll, clt, cac, cbr, cim, c77, ctp, ckl, c43⟩ := q_inv_cls hq
  have clk := hq.2.2.2.2.2.2.1
  have c552 := hq.2.2.2.2.2.2.2.2.2
  refine gq_aldn hc dL_law_359 rfl ?_
  refine gq_aload_n hc dL_law_360 rfl ?_
  refine gq_iload hc dL_law_361 rfl ?_
  refine gq_iconst hc dL_law_363 ?_
  refine gq_iadd hc dL_law_364 ?_
  refine gq_sld hc hX hbl hbA (by omega) (by omega) (by omega) dL_law_365 ?_
  refine gq_callV (as := [gvI (lw_i xs (i + 1))]) hc (c_X12_text w hr clk clv clt lw_i32 c43) my_X12_text mv_X12_text ca_0 rfl rfl lm_L_34 rfl rfl (by decide) (by decide) (Nat.le_of_ble_eq_true rfl) hu0 dL_law_366 (fun r1 n1 A1 J1 R1 h1 => ?_)
  obtain ⟨rfl, rfl, rfl, ct⟩ := h1
  have hk := k_hi_text (R := R) (tx := tx) hq ct
  have g1 := hk.2
  obtain ⟨lb1, hr1⟩ := k_tx_rf hr ct
  obtain ⟨hm, hu2, hbr, hi2, htp, ⟨hz3, hz7, hz6⟩, h705⟩ := q_inv_ref hq hk.1 hk.2
  refine gq_aldn hc dL_law_369 rfl ?_
  refine gq_aload_n hc dL_law_370 rfl ?_
  refine gq_iload hc dL_law_371 rfl ?_
  refine gq_iconst hc dL_law_373 ?_
  refine gq_iadd hc dL_law_374 ?_
  refine gq_sld hc hX hbl hbA (by omega) (by omega) (by omega) dL_law_375 ?_
  refine gq_callV (as := [gvI (lw_i xs (i + 1))]) hc (c_X13_text w hr1 g1 clk htp hm.pre hz3 h705 lw_i32) my_X13_text mv_X13_text ca_703 rfl rfl lm_L_37 rfl rfl (by decide) (by decide) (Nat.le_of_ble_eq_true rfl) hu0 dL_law_376 (fun r2 n2 A2 J2 R2 h2 => ?_)
  obtain rfl := h2.1
  obtain rfl := h2.2.1
  refine gq_icmp_same (tgt := 1724) hc dL_law_379 (by decide) ?_
  exact kk _ _ _ _ _ (by omega) (by omega) (k_text (J1 := J1) hr hq ct hr1 h2)
set_option maxHeartbeats 4000000 in
set_option maxRecDepth 100000 in
theorem L_4 (H : lw_ok w x b Ls xs) (hi : 0 ≤ i ∧ i + 6 ≤ (Ls : Int)) (hu : u + 1 ≤ x.2.2.2.2.2.2.2.2.2.1 ∧ v + 6 ≤ x.2.2.2.2.2.2.2.2.2.2) (hr : g_rf w R lb tx) (hq : q_inv A lb) (kk : lw_K w x P u v b i) : GQ w x P u v g_n A J R 384 (lw_L w b i) [] := by
  obtain ⟨hc, hX, hbl, hbA, hLs, hgx, hst⟩ := H
  have hu0 : u + 0 ≤ x.2.2.2.2.2.2.2.2.2.1 ∧ v + 0 ≤ x.2.2.2.2.2.2.2.2.2.2 := ⟨by omega, by omega⟩
  obtain ⟨⟨clb, cg, cin, ctb⟩, cck, clv, cll, clt, cac, cbr, cim, c77, ctp, ckl, c43⟩ := q_inv_cls hq
  have clk := hq.2.2.2.2.2.2.1
  have c552 := hq.2.2.2.2.2.2.2.2.2
  refine gq_aldn hc dL_law_384 rfl ?_
  refine gq_aload_n hc dL_law_385 rfl ?_
  refine gq_iload hc dL_law_386 rfl ?_
  refine gq_iconst hc dL_law_388 ?_
  refine gq_iadd hc dL_law_389 ?_
  refine gq_sld hc hX hbl hbA (by omega) (by omega) (by omega) dL_law_390 ?_
  refine gq_callV (as := [gvI (lw_i xs (i + 1))]) hc (c_X12_call w hr cg lw_i32 clv cll) my_X12_call mv_X12_call ca_0 rfl rfl lm_L_38 rfl rfl (by decide) (by decide) (Nat.le_of_ble_eq_true rfl) hu0 dL_law_391 (fun r1 n1 A1 J1 R1 h1 => ?_)
  obtain ⟨rfl, rfl, rfl, c0, c1⟩ := h1
  have hk := k_hi_call hq c0 c1
  have g1 := hk.2
  obtain ⟨lb1, hr1⟩ : ∃ lb1, g_rf w R1 lb1 tx := by
    by_cases hz : (0 ≤ lw_i xs (i + 1) ∧ lw_i xs (i + 1) < A 0 10)
    · exact ⟨_, (c1 hz).1⟩
    · rw [(c0 hz).2]; exact ⟨lb, hr⟩
  obtain ⟨hm, hu2, hbr, hi2, htp, ⟨hz3, hz7, hz6⟩, h705⟩ := q_inv_ref hq hk.1 hk.2
  refine gq_aldn hc dL_law_394 rfl ?_
  refine gq_aload_n hc dL_law_395 rfl ?_
  refine gq_iload hc dL_law_396 rfl ?_
  refine gq_iconst hc dL_law_398 ?_
  refine gq_iadd hc dL_law_399 ?_
  refine gq_sld hc hX hbl hbA (by omega) (by omega) (by omega) dL_law_400 ?_
  refine gq_callV (as := [gvI (lw_i xs (i + 1))]) hc (c_X13_call w hr1 g1 hm lw_i32 hz3) my_X13_call mv_X13_call ca_703 rfl rfl lm_L_41 rfl rfl (by decide) (by decide) (Nat.le_of_ble_eq_true rfl) hu0 dL_law_401 (fun r2 n2 A2 J2 R2 h2 => ?_)
  obtain rfl := h2.1.1
  obtain rfl := h2.1.2.1
  refine gq_icmp_same (tgt := 1724) hc dL_law_404 (by decide) ?_
  exact kk _ _ _ _ _ (by omega) (by omega) (k_call (J1 := J1) hr hq c0 c1 h2)
set_option maxHeartbeats 4000000 in
set_option maxRecDepth 100000 in
theorem L_5 (H : lw_ok w x b Ls xs) (hi : 0 ≤ i ∧ i + 6 ≤ (Ls : Int)) (hu : u + 1 ≤ x.2.2.2.2.2.2.2.2.2.1 ∧ v + 6 ≤ x.2.2.2.2.2.2.2.2.2.2) (hr : g_rf w R lb tx) (hq : q_inv A lb) (kk : lw_K w x P u v b i) : GQ w x P u v g_n A J R 409 (lw_L w b i) [] := by
  obtain ⟨hc, hX, hbl, hbA, hLs, hgx, hst⟩ := H
  have hu0 : u + 0 ≤ x.2.2.2.2.2.2.2.2.2.1 ∧ v + 0 ≤ x.2.2.2.2.2.2.2.2.2.2 := ⟨by omega, by omega⟩
  obtain ⟨⟨clb, cg, cin, ctb⟩, cck, clv, cll, clt, cac, cbr, cim, c77, ctp, ckl, c43⟩ := q_inv_cls hq
  have clk := hq.2.2.2.2.2.2.1
  have c552 := hq.2.2.2.2.2.2.2.2.2
  have g1 := cg
  refine gq_aldn hc dL_law_409 rfl ?_
  refine gq_aload_n hc dL_law_410 rfl ?_
  refine gq_iload hc dL_law_411 rfl ?_
  refine gq_iconst hc dL_law_413 ?_
  refine gq_iadd hc dL_law_414 ?_
  refine gq_sld hc hX hbl hbA (by omega) (by omega) (by omega) dL_law_415 ?_
  refine gq_aload_n hc dL_law_416 rfl ?_
  refine gq_iload hc dL_law_417 rfl ?_
  refine gq_iconst hc dL_law_419 ?_
  refine gq_iadd hc dL_law_420 ?_
  refine gq_sld hc hX hbl hbA (by omega) (by omega) (by omega) dL_law_421 ?_
  refine gq_aldn hc dL_law_422 rfl ?_
  generalize hs : lw_i xs (i + 1) = s
  generalize hk : lw_i xs (i + 2) = k
  have gs : g32 s := by rw [← hs]; exact lw_i32
  have gk : g32 k := by rw [← hk]; exact lw_i32
  by_cases hgd : (0 ≤ s ∧ s < A lb 0) ∧ 0 ≤ k ∧ k ≤ 8
  · refine gx_callS (as := [gvr w 0, gvI s, gvI k, gvr w 728]) hc hgx (c_L_self w hr clb cg (fun _ _ => rfl) cg cin ctb gs gk hgd) lm_L_42 rfl rfl (by decide) (by decide) (Nat.le_of_ble_eq_true rfl) hu0 dL_law_423 (fun r1 n1 A1 J1 R1 h1 => ?_)
    obtain ⟨rfl, rfl, e1, g1, hJ1, hR9⟩ := h1
    obtain rfl : R = R1 := hR9.symm
    obtain ⟨hm, hu2, hbr, hi2, htp, ⟨hz3, hz7, hz6⟩, h705⟩ := q_inv_ref hq (fun k hk => e1 k (by unfold g_sc; omega)) g1
    refine gq_istore_5 hc dL_law_426 rfl ?_
    refine gq_aldn hc dL_law_428 rfl ?_
    refine gq_aload_n hc dL_law_429 rfl ?_
    refine gq_iload hc dL_law_430 rfl ?_
    refine gq_iconst hc dL_law_432 ?_
    refine gq_iadd hc dL_law_433 ?_
    refine gq_sld hc hX hbl hbA (by omega) (by omega) (by omega) dL_law_434 ?_
    refine gq_aload_n hc dL_law_435 rfl ?_
    refine gq_iload hc dL_law_436 rfl ?_
    refine gq_iconst hc dL_law_438 ?_
    refine gq_iadd hc dL_law_439 ?_
    refine gq_sld hc hX hbl hbA (by omega) (by omega) (by omega) dL_law_440 ?_
    rw [hs, hk]
    refine gq_callV (as := [gvI s, gvI k]) hc (c_X13_self w hr hm gs gk) my_X13_self mv_X13_self ca_703 rfl rfl lm_L_47 rfl rfl (by decide) (by decide) (Nat.le_of_ble_eq_true rfl) hu0 dL_law_441 (fun r2 n2 A2 J2 R2 h2 => ?_)
    rw [if_pos hgd, if_pos hgd] at h2
    obtain ⟨⟨rfl, rfl, e2, g2, hJ2, t2, hr2⟩, hth⟩ := h2
    obtain rfl : J1 = J2 := hJ2
    refine gq_istore_6 hc dL_law_444 rfl ?_
    refine gq_aldn hc dL_law_446 rfl ?_
    refine gq_callV (as := []) hc (c_X13_thrown (I := A) w hr2 g2) my_X13_thrown mv_X13_thrown ca_703 rfl rfl lm_L_48 rfl rfl (by decide) (by decide) (Nat.le_of_ble_eq_true rfl) hu0 dL_law_447 (fun r3 n3 A3 J3 R3 h3 => ?_)
    obtain ⟨rfl, rfl, rfl, rfl, rfl⟩ := h3
    rw [hth]
    refine gq_iload hc dL_law_450 rfl ?_
    refine gq_icmp_same (tgt := 457) hc dL_law_452 (by decide) ?_
    refine gq_iload hc dL_law_457 rfl ?_
    refine gq_if_ne (tgt := 474) hc dL_law_459 (by decide) ⟨by decide, by decide⟩ (fun c => absurd rfl c) (fun _ => ?_)
    refine gq_aldn hc dL_law_462 rfl ?_
    refine gq_iconst hc dL_law_463 ?_
    refine gq_lald hc ca_728 dL_law_464 ?_
    refine gq_iload hc dL_law_465 rfl ?_
    refine gq_i2lx hc dL_law_467 ?_
    rw [hJ1, show g_upJ J 728 ((Int32.ofInt (x_slf A lb s k)).toInt) 728 = (Int32.ofInt (x_slf A lb s k)).toInt from if_pos rfl]
    refine gq_lcmp_same hc dL_law_468 ?_
    refine gq_if_eq (tgt := 474) hc dL_law_469 (by decide) ⟨by decide, by decide⟩ (fun _ => ?_) (fun c => absurd rfl c)
    refine gq_goto (tgt := 1724) hc dL_law_474 (by decide) ?_
    refine GQ_sub (L' := lw_L w b i) (show g_le _ _ from ⟨rfl, rfl, rfl, rfl, rfl, trivial⟩) ?_
    exact kk _ _ _ _ _ (by omega) (by omega) ⟨lb, t2, hr2, q_inv_ask hq e1 g1 e2 g2⟩
  · refine gx_callS (as := [gvr w 0, gvI s, gvI k, gvr w 728]) hc hgx (cx_L_self w hst hr clb cg (fun _ _ => rfl) cg cin ctb gs gk hgd) lm_L_42 rfl rfl (by decide) (by decide) (Nat.le_of_ble_eq_true rfl) hu dL_law_423 (fun r1 n1 A1 J1 R1 h1 => ?_)
    obtain ⟨rfl, rfl, hA9, hJ9, hR9⟩ := h1
    obtain rfl : A = A1 := hA9.symm
    obtain rfl : J = J1 := hJ9.symm
    obtain rfl : R = R1 := hR9.symm
    obtain ⟨hm, hu2, hbr, hi2, htp, ⟨hz3, hz7, hz6⟩, h705⟩ := q_inv_ref hq (fun _ _ => rfl) cg
    refine gq_istore_5 hc dL_law_426 rfl ?_
    refine gq_aldn hc dL_law_428 rfl ?_
    refine gq_aload_n hc dL_law_429 rfl ?_
    refine gq_iload hc dL_law_430 rfl ?_
    refine gq_iconst hc dL_law_432 ?_
    refine gq_iadd hc dL_law_433 ?_
    refine gq_sld hc hX hbl hbA (by omega) (by omega) (by omega) dL_law_434 ?_
    refine gq_aload_n hc dL_law_435 rfl ?_
    refine gq_iload hc dL_law_436 rfl ?_
    refine gq_iconst hc dL_law_438 ?_
    refine gq_iadd hc dL_law_439 ?_
    refine gq_sld hc hX hbl hbA (by omega) (by omega) (by omega) dL_law_440 ?_
    rw [hs, hk]
    refine gq_callV (as := [gvI s, gvI k]) hc (c_X13_self w hr hm gs gk) my_X13_self mv_X13_self ca_703 rfl rfl lm_L_47 rfl rfl (by decide) (by decide) (Nat.le_of_ble_eq_true rfl) hu dL_law_441 (fun r2 n2 A2 J2 R2 h2 => ?_)
    rw [if_neg hgd, if_neg hgd] at h2
    obtain ⟨⟨rfl, rfl, e2, g2, hJ2, t2, hr2⟩, hth⟩ := h2
    refine gq_istore_6 hc dL_law_444 rfl ?_
    refine gq_aldn hc dL_law_446 rfl ?_
    refine gq_callV (as := []) hc (c_X13_thrown (I := A) w hr2 g2) my_X13_thrown mv_X13_thrown ca_703 rfl rfl lm_L_48 rfl rfl (by decide) (by decide) (Nat.le_of_ble_eq_true rfl) hu dL_law_447 (fun r3 n3 A3 J3 R3 h3 => ?_)
    obtain ⟨rfl, rfl, rfl, rfl, rfl⟩ := h3
    rw [hth]
    refine gq_iload hc dL_law_450 rfl ?_
    refine gq_icmp_same (tgt := 457) hc dL_law_452 (by decide) ?_
    refine gq_iload hc dL_law_457 rfl ?_
    refine gq_if_ne (tgt := 474) hc dL_law_459 (by decide) ⟨by decide, by decide⟩ (fun _ => ?_) (fun c => absurd c (by decide))
    refine gq_goto (tgt := 1724) hc dL_law_474 (by decide) ?_
    refine GQ_sub (L' := lw_L w b i) (show g_le _ _ from ⟨rfl, rfl, rfl, rfl, rfl, trivial⟩) ?_
    exact kk _ _ _ _ _ (by omega) (by omega) ⟨lb, t2, hr2, q_inv_ask hq (fun _ _ => rfl) cg e2 g2⟩
set_option maxHeartbeats 4000000 in
set_option maxRecDepth 100000 in
theorem L_6 (H : lw_ok w x b Ls xs) (hi : 0 ≤ i ∧ i + 6 ≤ (Ls : Int)) (hu : u + 1 ≤ x.2.2.2.2.2.2.2.2.2.1 ∧ v + 6 ≤ x.2.2.2.2.2.2.2.2.2.2) (hr : g_rf w R lb tx) (hq : q_inv A lb) (kk : lw_K w x P u v b i) : GQ w x P u v g_n A J R 477 (lw_L w b i) [] := by
  obtain ⟨hc, hX, hbl, hbA, hLs, hgx, hst⟩ := H
  have hu0 : u + 0 ≤ x.2.2.2.2.2.2.2.2.2.1 ∧ v + 0 ≤ x.2.2.2.2.2.2.2.2.2.2 := ⟨by omega, by omega⟩
  obtain ⟨⟨clb, cg, cin, ctb⟩, cck, clv, cll, clt, cac, cbr, cim, c77, ctp, ckl, c43⟩ := q_inv_cls hq
  have clk := hq.2.2.2.2.2.2.1
  have c552 := hq.2.2.2.2.2.2.2.2.2
  refine gq_aldn hc dL_law_477 rfl ?_
  refine gq_aload_n hc dL_law_478 rfl ?_
  refine gq_iload hc dL_law_479 rfl ?_
  refine gq_iconst hc dL_law_481 ?_
  refine gq_iadd hc dL_law_482 ?_
  refine gq_sld hc hX hbl hbA (by omega) (by omega) (by omega) dL_law_483 ?_
  refine gq_aload_n hc dL_law_484 rfl ?_
  refine gq_iload hc dL_law_485 rfl ?_
  refine gq_iconst hc dL_law_487 ?_
  refine gq_iadd hc dL_law_488 ?_
  refine gq_sld hc hX hbl hbA (by omega) (by omega) (by omega) dL_law_489 ?_
  refine gq_callV (as := [gvI (lw_i xs (i + 1)), gvI (lw_i xs (i + 2))]) hc (c_X12_way w hr clb cg (fun _ _ => rfl) cg cin ctb lw_i32 lw_i32) my_X12_way mv_X12_way ca_0 rfl rfl lm_L_52 rfl rfl (by decide) (by decide) (Nat.le_of_ble_eq_true rfl) hu0 dL_law_490 (fun r1 n1 A1 J1 R1 h1 => ?_)
  obtain ⟨rfl, rfl, e1, g1, hJ9, hR9⟩ := h1
  obtain rfl : J = J1 := hJ9
  obtain rfl : R = R1 := hR9
  have hk : k_hi A A1 := ⟨fun k hk => e1 k (by unfold g_sc; omega), g1⟩
  obtain ⟨hm, hu2, hbr, hi2, htp, ⟨hz3, hz7, hz6⟩, h705⟩ := q_inv_ref hq hk.1 hk.2
  refine gq_aldn hc dL_law_493 rfl ?_
  refine gq_aload_n hc dL_law_494 rfl ?_
  refine gq_iload hc dL_law_495 rfl ?_
  refine gq_iconst hc dL_law_497 ?_
  refine gq_iadd hc dL_law_498 ?_
  refine gq_sld hc hX hbl hbA (by omega) (by omega) (by omega) dL_law_499 ?_
  refine gq_aload_n hc dL_law_500 rfl ?_
  refine gq_iload hc dL_law_501 rfl ?_
  refine gq_iconst hc dL_law_503 ?_
  refine gq_iadd hc dL_law_504 ?_
  refine gq_sld hc hX hbl hbA (by omega) (by omega) (by omega) dL_law_505 ?_
  refine gq_callV (as := [gvI (lw_i xs (i + 1)), gvI (lw_i xs (i + 2))]) hc (c_X13_way w hr hm lw_i32 lw_i32) my_X13_way mv_X13_way ca_703 rfl rfl lm_L_55 rfl rfl (by decide) (by decide) (Nat.le_of_ble_eq_true rfl) hu0 dL_law_506 (fun r2 n2 A2 J2 R2 h2 => ?_)
  obtain rfl := h2.1
  obtain rfl := h2.2.1
  refine gq_icmp_same (tgt := 1724) hc dL_law_509 (by decide) ?_
  obtain ⟨-, -, e2, g2, -, t2, hr2⟩ := h2
  exact kk _ _ _ _ _ (by omega) (by omega) ⟨lb, t2, hr2, q_inv_ask hq e1 g1 e2 g2⟩
set_option maxHeartbeats 4000000 in
set_option maxRecDepth 100000 in
theorem L_7 (H : lw_ok w x b Ls xs) (hi : 0 ≤ i ∧ i + 6 ≤ (Ls : Int)) (hu : u + 1 ≤ x.2.2.2.2.2.2.2.2.2.1 ∧ v + 6 ≤ x.2.2.2.2.2.2.2.2.2.2) (hr : g_rf w R lb tx) (hq : q_inv A lb) (kk : lw_K w x P u v b i) : GQ w x P u v g_n A J R 514 (lw_L w b i) [] := by
  obtain ⟨hc, hX, hbl, hbA, hLs, hgx, hst⟩ := H
  have hu0 : u + 0 ≤ x.2.2.2.2.2.2.2.2.2.1 ∧ v + 0 ≤ x.2.2.2.2.2.2.2.2.2.2 := ⟨by omega, by omega⟩
  obtain ⟨⟨clb, cg, cin, ctb⟩, cck, clv, cll, clt, cac, cbr, cim, c77, ctp, ckl, c43⟩ := q_inv_cls hq
  have clk := hq.2.2.2.2.2.2.1
  have c552 := hq.2.2.2.2.2.2.2.2.2
  refine gq_aldn hc dL_law_514 rfl ?_
  refine gq_aload_n hc dL_law_515 rfl ?_
  refine gq_iload hc dL_law_516 rfl ?_
  refine gq_iconst hc dL_law_518 ?_
  refine gq_iadd hc dL_law_519 ?_
  refine gq_sld hc hX hbl hbA (by omega) (by omega) (by omega) dL_law_520 ?_
  refine gq_aload_n hc dL_law_521 rfl ?_
  refine gq_iload hc dL_law_522 rfl ?_
  refine gq_iconst hc dL_law_524 ?_
  refine gq_iadd hc dL_law_525 ?_
  refine gq_sld hc hX hbl hbA (by omega) (by omega) (by omega) dL_law_526 ?_
  refine gq_callV (as := [gvI (lw_i xs (i + 1)), gvI (lw_i xs (i + 2))]) hc (c_X12_fork w hr clb cg (fun _ _ => rfl) cg cin ctb lw_i32 lw_i32) my_X12_fork mv_X12_fork ca_0 rfl rfl lm_L_56 rfl rfl (by decide) (by decide) (Nat.le_of_ble_eq_true rfl) hu0 dL_law_527 (fun r1 n1 A1 J1 R1 h1 => ?_)
  obtain ⟨rfl, rfl, e1, g1, hJ9, hR9⟩ := h1
  obtain rfl : J = J1 := hJ9
  obtain rfl : R = R1 := hR9
  have hk : k_hi A A1 := ⟨fun k hk => e1 k (by unfold g_sc; omega), g1⟩
  obtain ⟨hm, hu2, hbr, hi2, htp, ⟨hz3, hz7, hz6⟩, h705⟩ := q_inv_ref hq hk.1 hk.2
  refine gq_aldn hc dL_law_530 rfl ?_
  refine gq_aload_n hc dL_law_531 rfl ?_
  refine gq_iload hc dL_law_532 rfl ?_
  refine gq_iconst hc dL_law_534 ?_
  refine gq_iadd hc dL_law_535 ?_
  refine gq_sld hc hX hbl hbA (by omega) (by omega) (by omega) dL_law_536 ?_
  refine gq_aload_n hc dL_law_537 rfl ?_
  refine gq_iload hc dL_law_538 rfl ?_
  refine gq_iconst hc dL_law_540 ?_
  refine gq_iadd hc dL_law_541 ?_
  refine gq_sld hc hX hbl hbA (by omega) (by omega) (by omega) dL_law_542 ?_
  refine gq_callV (as := [gvI (lw_i xs (i + 1)), gvI (lw_i xs (i + 2))]) hc (c_X13_fork w hr hm lw_i32 lw_i32) my_X13_fork mv_X13_fork ca_703 rfl rfl lm_L_59 rfl rfl (by decide) (by decide) (Nat.le_of_ble_eq_true rfl) hu0 dL_law_543 (fun r2 n2 A2 J2 R2 h2 => ?_)
  obtain rfl := h2.1
  obtain rfl := h2.2.1
  refine gq_icmp_same (tgt := 1724) hc dL_law_546 (by decide) ?_
  obtain ⟨-, -, e2, g2, -, t2, hr2⟩ := h2
  exact kk _ _ _ _ _ (by omega) (by omega) ⟨lb, t2, hr2, q_inv_ask hq e1 g1 e2 g2⟩
set_option maxHeartbeats 4000000 in
set_option maxRecDepth 100000 in
theorem L_8 (H : lw_ok w x b Ls xs) (hi : 0 ≤ i ∧ i + 6 ≤ (Ls : Int)) (hu : u + 1 ≤ x.2.2.2.2.2.2.2.2.2.1 ∧ v + 6 ≤ x.2.2.2.2.2.2.2.2.2.2) (hr : g_rf w R lb tx) (hq : q_inv A lb) (kk : lw_K w x P u v b i) : GQ w x P u v g_n A J R 551 (lw_L w b i) [] := by
  obtain ⟨hc, hX, hbl, hbA, hLs, hgx, hst⟩ := H
  have hu0 : u + 0 ≤ x.2.2.2.2.2.2.2.2.2.1 ∧ v + 0 ≤ x.2.2.2.2.2.2.2.2.2.2 := ⟨by omega, by omega⟩
  obtain ⟨⟨clb, cg, cin, ctb⟩, cck, clv, cll, clt, cac, cbr, cim, c77, ctp, ckl, c43⟩ := q_inv_cls hq
  have clk := hq.2.2.2.2.2.2.1
  have c552 := hq.2.2.2.2.2.2.2.2.2
  refine gq_aldn hc dL_law_551 rfl ?_
  refine gq_aload_n hc dL_law_552 rfl ?_
  refine gq_iload hc dL_law_553 rfl ?_
  refine gq_iconst hc dL_law_555 ?_
  refine gq_iadd hc dL_law_556 ?_
  refine gq_sld hc hX hbl hbA (by omega) (by omega) (by omega) dL_law_557 ?_
  refine gq_aload_n hc dL_law_558 rfl ?_
  refine gq_iload hc dL_law_559 rfl ?_
  refine gq_iconst hc dL_law_561 ?_
  refine gq_iadd hc dL_law_562 ?_
  refine gq_sld hc hX hbl hbA (by omega) (by omega) (by omega) dL_law_563 ?_
  refine gq_aload_n hc dL_law_564 rfl ?_
  refine gq_iload hc dL_law_565 rfl ?_
  refine gq_iconst hc dL_law_567 ?_
  refine gq_iadd hc dL_law_568 ?_
  refine gq_sld hc hX hbl hbA (by omega) (by omega) (by omega) dL_law_569 ?_
  refine gq_callV (as := [gvI (lw_i xs (i + 1)), gvI (lw_i xs (i + 2)), gvI (lw_i xs (i + 3))]) hc (c_X12_branch w hr clb cg (fun _ _ => rfl) cg cin ctb lw_i32 lw_i32 lw_i32) my_X12_branch mv_X12_branch ca_0 rfl rfl lm_L_60 rfl rfl (by decide) (by decide) (Nat.le_of_ble_eq_true rfl) hu0 dL_law_570 (fun r1 n1 A1 J1 R1 h1 => ?_)
  obtain ⟨rfl, rfl, e1, g1, hJ9, hR9⟩ := h1
  obtain rfl : J = J1 := hJ9
  obtain rfl : R = R1 := hR9
  have hk : k_hi A A1 := ⟨fun k hk => e1 k (by unfold g_sc; omega), g1⟩
  obtain ⟨hm, hu2, hbr, hi2, htp, ⟨hz3, hz7, hz6⟩, h705⟩ := q_inv_ref hq hk.1 hk.2
  refine gq_aldn hc dL_law_573 rfl ?_
  refine gq_aload_n hc dL_law_574 rfl ?_
  refine gq_iload hc dL_law_575 rfl ?_
  refine gq_iconst hc dL_law_577 ?_
  refine gq_iadd hc dL_law_578 ?_
  refine gq_sld hc hX hbl hbA (by omega) (by omega) (by omega) dL_law_579 ?_
  refine gq_aload_n hc dL_law_580 rfl ?_
  refine gq_iload hc dL_law_581 rfl ?_
  refine gq_iconst hc dL_law_583 ?_
  refine gq_iadd hc dL_law_584 ?_
  refine gq_sld hc hX hbl hbA (by omega) (by omega) (by omega) dL_law_585 ?_
  refine gq_aload_n hc dL_law_586 rfl ?_
  refine gq_iload hc dL_law_587 rfl ?_
  refine gq_iconst hc dL_law_589 ?_
  refine gq_iadd hc dL_law_590 ?_
  refine gq_sld hc hX hbl hbA (by omega) (by omega) (by omega) dL_law_591 ?_
  refine gq_callV (as := [gvI (lw_i xs (i + 1)), gvI (lw_i xs (i + 2)), gvI (lw_i xs (i + 3))]) hc (c_X13_branch w hr hm lw_i32 lw_i32 lw_i32) my_X13_branch mv_X13_branch ca_703 rfl rfl lm_L_64 rfl rfl (by decide) (by decide) (Nat.le_of_ble_eq_true rfl) hu0 dL_law_592 (fun r2 n2 A2 J2 R2 h2 => ?_)
  obtain rfl := h2.1
  obtain rfl := h2.2.1
  refine gq_icmp_same (tgt := 1724) hc dL_law_595 (by decide) ?_
  obtain ⟨-, -, e2, g2, -, t2, hr2⟩ := h2
  exact kk _ _ _ _ _ (by omega) (by omega) ⟨lb, t2, hr2, q_inv_ask hq e1 g1 e2 g2⟩
set_option maxHeartbeats 4000000 in
set_option maxRecDepth 100000 in
theorem L_9 (H : lw_ok w x b Ls xs) (hi : 0 ≤ i ∧ i + 6 ≤ (Ls : Int)) (hu : u + 1 ≤ x.2.2.2.2.2.2.2.2.2.1 ∧ v + 6 ≤ x.2.2.2.2.2.2.2.2.2.2) (hr : g_rf w R lb tx) (hq : q_inv A lb) (kk : lw_K w x P u v b i) : GQ w x P u v g_n A J R 600 (lw_L w b i) [] := by
  obtain ⟨hc, hX, hbl, hbA, hLs, hgx, hst⟩ := H
  have hu0 : u + 0 ≤ x.2.2.2.2.2.2.2.2.2.1 ∧ v + 0 ≤ x.2.2.2.2.2.2.2.2.2.2 := ⟨by omega, by omega⟩
  obtain ⟨⟨clb, cg, cin, ctb⟩, cck, clv, cll, clt, cac, cbr, cim, c77, ctp, ckl, c43⟩ := q_inv_cls hq
  have clk := hq.2.2.2.2.2.2.1
  have c552 := hq.2.2.2.2.2.2.2.2.2
  refine gq_aldn hc dL_law_600 rfl ?_
  refine gq_aload_n hc dL_law_601 rfl ?_
  refine gq_iload hc dL_law_602 rfl ?_
  refine gq_iconst hc dL_law_604 ?_
  refine gq_iadd hc dL_law_605 ?_
  refine gq_sld hc hX hbl hbA (by omega) (by omega) (by omega) dL_law_606 ?_
  refine gq_aload_n hc dL_law_607 rfl ?_
  refine gq_iload hc dL_law_608 rfl ?_
  refine gq_iconst hc dL_law_610 ?_
  refine gq_iadd hc dL_law_611 ?_
  refine gq_sld hc hX hbl hbA (by omega) (by omega) (by omega) dL_law_612 ?_
  refine gq_aload_n hc dL_law_613 rfl ?_
  refine gq_iload hc dL_law_614 rfl ?_
  refine gq_iconst hc dL_law_616 ?_
  refine gq_iadd hc dL_law_617 ?_
  refine gq_sld hc hX hbl hbA (by omega) (by omega) (by omega) dL_law_618 ?_
  refine gq_callV (as := [gvI (lw_i xs (i + 1)), gvI (lw_i xs (i + 2)), gvI (lw_i xs (i + 3))]) hc (c_X12_part w hr clb cg (fun _ _ => rfl) cg cin ctb lw_i32 lw_i32 lw_i32) my_X12_part mv_X12_part ca_0 rfl rfl lm_L_65 rfl rfl (by decide) (by decide) (Nat.le_of_ble_eq_true rfl) hu0 dL_law_619 (fun r1 n1 A1 J1 R1 h1 => ?_)
  obtain ⟨rfl, rfl, e1, g1, hJ9, hR9⟩ := h1
  obtain rfl : J = J1 := hJ9
  obtain rfl : R = R1 := hR9
  have hk : k_hi A A1 := ⟨fun k hk => e1 k (by unfold g_sc; omega), g1⟩
  obtain ⟨hm, hu2, hbr, hi2, htp, ⟨hz3, hz7, hz6⟩, h705⟩ := q_inv_ref hq hk.1 hk.2
  refine gq_aldn hc dL_law_622 rfl ?_
  refine gq_aload_n hc dL_law_623 rfl ?_
  refine gq_iload hc dL_law_624 rfl ?_
  refine gq_iconst hc dL_law_626 ?_
  refine gq_iadd hc dL_law_627 ?_
  refine gq_sld hc hX hbl hbA (by omega) (by omega) (by omega) dL_law_628 ?_
  refine gq_aload_n hc dL_law_629 rfl ?_
  refine gq_iload hc dL_law_630 rfl ?_
  refine gq_iconst hc dL_law_632 ?_
  refine gq_iadd hc dL_law_633 ?_
  refine gq_sld hc hX hbl hbA (by omega) (by omega) (by omega) dL_law_634 ?_
  refine gq_aload_n hc dL_law_635 rfl ?_
  refine gq_iload hc dL_law_636 rfl ?_
  refine gq_iconst hc dL_law_638 ?_
  refine gq_iadd hc dL_law_639 ?_
  refine gq_sld hc hX hbl hbA (by omega) (by omega) (by omega) dL_law_640 ?_
  refine gq_callV (as := [gvI (lw_i xs (i + 1)), gvI (lw_i xs (i + 2)), gvI (lw_i xs (i + 3))]) hc (c_X13_part_ w hr hm lw_i32 lw_i32 lw_i32) my_X13_part_ mv_X13_part_ ca_703 rfl rfl lm_L_68 rfl rfl (by decide) (by decide) (Nat.le_of_ble_eq_true rfl) hu0 dL_law_641 (fun r2 n2 A2 J2 R2 h2 => ?_)
  obtain rfl := h2.1
  obtain rfl := h2.2.1
  refine gq_icmp_same (tgt := 1724) hc dL_law_644 (by decide) ?_
  obtain ⟨-, -, e2, g2, -, t2, hr2⟩ := h2
  exact kk _ _ _ _ _ (by omega) (by omega) ⟨lb, t2, hr2, q_inv_ask hq e1 g1 e2 g2⟩
set_option maxHeartbeats 4000000 in
set_option maxRecDepth 100000 in
theorem L_10 (H : lw_ok w x b Ls xs) (hi : 0 ≤ i ∧ i + 6 ≤ (Ls : Int)) (hu : u + 1 ≤ x.2.2.2.2.2.2.2.2.2.1 ∧ v + 6 ≤ x.2.2.2.2.2.2.2.2.2.2) (hr : g_rf w R lb tx) (hq : q_inv A lb) (kk : lw_K w x P u v b i) : GQ w x P u v g_n A J R 649 (lw_L w b i) [] := by
  obtain ⟨hc, hX, hbl, hbA, hLs, hgx, hst⟩ := H
  have hu0 : u + 0 ≤ x.2.2.2.2.2.2.2.2.2.1 ∧ v + 0 ≤ x.2.2.2.2.2.2.2.2.2.2 := ⟨by omega, by omega⟩
  obtain ⟨⟨clb, cg, cin, ctb⟩, cck, clv, cll, clt, cac, cbr, cim, c77, ctp, ckl, c43⟩ := q_inv_cls hq
  have clk := hq.2.2.2.2.2.2.1
  have c552 := hq.2.2.2.2.2.2.2.2.2
  refine gq_aldn hc dL_law_649 rfl ?_
  refine gq_aload_n hc dL_law_650 rfl ?_
  refine gq_iload hc dL_law_651 rfl ?_
  refine gq_iconst hc dL_law_653 ?_
  refine gq_iadd hc dL_law_654 ?_
  refine gq_sld hc hX hbl hbA (by omega) (by omega) (by omega) dL_law_655 ?_
  refine gq_aload_n hc dL_law_656 rfl ?_
  refine gq_iload hc dL_law_657 rfl ?_
  refine gq_iconst hc dL_law_659 ?_
  refine gq_iadd hc dL_law_660 ?_
  refine gq_sld hc hX hbl hbA (by omega) (by omega) (by omega) dL_law_661 ?_
  refine gq_aload_n hc dL_law_662 rfl ?_
  refine gq_iload hc dL_law_663 rfl ?_
  refine gq_iconst hc dL_law_665 ?_
  refine gq_iadd hc dL_law_666 ?_
  refine gq_sld hc hX hbl hbA (by omega) (by omega) (by omega) dL_law_667 ?_
  refine gq_if_eq (tgt := 675) hc dL_law_668 (by decide) lw_i32 (fun cb => ?_) (fun cb => ?_)
  · skip
    refine gq_iconst hc dL_law_675 ?_
    refine gq_callV (as := [gvI (lw_i xs (i + 1)), gvI (lw_i xs (i + 2)), gvI (0)]) hc (c_X12_open w hr clb cg cin ctb lw_i32 lw_i32 (Or.inl rfl) cac) my_X12_open mv_X12_open ca_0 rfl rfl lm_L_69 rfl rfl (by decide) (by decide) (Nat.le_of_ble_eq_true rfl) hu0 dL_law_676 (fun r1 n1 A1 J1 R1 h1 => ?_)
    obtain ⟨rfl, rfl, hA1, rfl, rfl⟩ := h1
    have hk := k_hi_open (f := (lw_i xs (i + 1))) (ρ := (lw_i xs (i + 2))) (b := (0)) hq lw_i32
    rw [← hA1] at hk
    have g1 := hk.2
    obtain ⟨hm, hu2, hbr, hi2, htp, ⟨hz3, hz7, hz6⟩, h705⟩ := q_inv_ref hq hk.1 hk.2
    refine gq_aldn hc dL_law_679 rfl ?_
    refine gq_aload_n hc dL_law_680 rfl ?_
    refine gq_iload hc dL_law_681 rfl ?_
    refine gq_iconst hc dL_law_683 ?_
    refine gq_iadd hc dL_law_684 ?_
    refine gq_sld hc hX hbl hbA (by omega) (by omega) (by omega) dL_law_685 ?_
    refine gq_aload_n hc dL_law_686 rfl ?_
    refine gq_iload hc dL_law_687 rfl ?_
    refine gq_iconst hc dL_law_689 ?_
    refine gq_iadd hc dL_law_690 ?_
    refine gq_sld hc hX hbl hbA (by omega) (by omega) (by omega) dL_law_691 ?_
    refine gq_aload_n hc dL_law_692 rfl ?_
    refine gq_iload hc dL_law_693 rfl ?_
    refine gq_iconst hc dL_law_695 ?_
    refine gq_iadd hc dL_law_696 ?_
    refine gq_sld hc hX hbl hbA (by omega) (by omega) (by omega) dL_law_697 ?_
    refine gq_if_eq (tgt := 705) hc dL_law_698 (by decide) lw_i32 (fun cd => ?_) (fun cd => ?_)
    rotate_left
    · exact absurd cb cd
    refine gq_iconst hc dL_law_705 ?_
    refine gq_callV (as := [gvI (lw_i xs (i + 1)), gvI (lw_i xs (i + 2)), gvI (0)]) hc (c_X13_open w hr hm lw_i32 lw_i32 (Or.inl rfl) hu2 hz3 hz7) my_X13_open mv_X13_open ca_703 rfl rfl lm_L_73 rfl rfl (by decide) (by decide) (Nat.le_of_ble_eq_true rfl) hu0 dL_law_706 (fun r2 n2 A2 J2 R2 h2 => ?_)
    obtain rfl := h2.1.1
    obtain rfl := h2.1.2.1
    refine gq_icmp_same (tgt := 1724) hc dL_law_709 (by decide) ?_
    subst hA1
    exact kk _ _ _ _ _ (by omega) (by omega) (k_open hq h2)
  · skip
    refine gq_iconst hc dL_law_671 ?_
    refine gq_goto (tgt := 676) hc dL_law_672 (by decide) ?_
    refine gq_callV (as := [gvI (lw_i xs (i + 1)), gvI (lw_i xs (i + 2)), gvI (1)]) hc (c_X12_open w hr clb cg cin ctb lw_i32 lw_i32 (Or.inr rfl) cac) my_X12_open mv_X12_open ca_0 rfl rfl lm_L_69 rfl rfl (by decide) (by decide) (Nat.le_of_ble_eq_true rfl) hu0 dL_law_676 (fun r1 n1 A1 J1 R1 h1 => ?_)
    obtain ⟨rfl, rfl, hA1, rfl, rfl⟩ := h1
    have hk := k_hi_open (f := (lw_i xs (i + 1))) (ρ := (lw_i xs (i + 2))) (b := (1)) hq lw_i32
    rw [← hA1] at hk
    have g1 := hk.2
    obtain ⟨hm, hu2, hbr, hi2, htp, ⟨hz3, hz7, hz6⟩, h705⟩ := q_inv_ref hq hk.1 hk.2
    refine gq_aldn hc dL_law_679 rfl ?_
    refine gq_aload_n hc dL_law_680 rfl ?_
    refine gq_iload hc dL_law_681 rfl ?_
    refine gq_iconst hc dL_law_683 ?_
    refine gq_iadd hc dL_law_684 ?_
    refine gq_sld hc hX hbl hbA (by omega) (by omega) (by omega) dL_law_685 ?_
    refine gq_aload_n hc dL_law_686 rfl ?_
    refine gq_iload hc dL_law_687 rfl ?_
    refine gq_iconst hc dL_law_689 ?_
    refine gq_iadd hc dL_law_690 ?_
    refine gq_sld hc hX hbl hbA (by omega) (by omega) (by omega) dL_law_691 ?_
    refine gq_aload_n hc dL_law_692 rfl ?_
    refine gq_iload hc dL_law_693 rfl ?_
    refine gq_iconst hc dL_law_695 ?_
    refine gq_iadd hc dL_law_696 ?_
    refine gq_sld hc hX hbl hbA (by omega) (by omega) (by omega) dL_law_697 ?_
    refine gq_if_eq (tgt := 705) hc dL_law_698 (by decide) lw_i32 (fun cd => ?_) (fun cd => ?_)
    · exact absurd cd cb
    refine gq_iconst hc dL_law_701 ?_
    refine gq_goto (tgt := 706) hc dL_law_702 (by decide) ?_
    refine gq_callV (as := [gvI (lw_i xs (i + 1)), gvI (lw_i xs (i + 2)), gvI (1)]) hc (c_X13_open w hr hm lw_i32 lw_i32 (Or.inr rfl) hu2 hz3 hz7) my_X13_open mv_X13_open ca_703 rfl rfl lm_L_73 rfl rfl (by decide) (by decide) (Nat.le_of_ble_eq_true rfl) hu0 dL_law_706 (fun r2 n2 A2 J2 R2 h2 => ?_)
    obtain rfl := h2.1.1
    obtain rfl := h2.1.2.1
    refine gq_icmp_same (tgt := 1724) hc dL_law_709 (by decide) ?_
    subst hA1
    exact kk _ _ _ _ _ (by omega) (by omega) (k_open hq h2)
set_option maxHeartbeats 4000000 in
set_option maxRecDepth 100000 in
theorem L_11 (H : lw_ok w x b Ls xs) (hi : 0 ≤ i ∧ i + 6 ≤ (Ls : Int)) (hu : u + 1 ≤ x.2.2.2.2.2.2.2.2.2.1 ∧ v + 6 ≤ x.2.2.2.2.2.2.2.2.2.2) (hr : g_rf w R lb tx) (hq : q_inv A lb) (kk : lw_K w x P u v b i) : GQ w x P u v g_n A J R 714 (lw_L w b i) [] := by
  obtain ⟨hc, hX, hbl, hbA, hLs, hgx, hst⟩ := H
  have hu0 : u + 0 ≤ x.2.2.2.2.2.2.2.2.2.1 ∧ v + 0 ≤ x.2.2.2.2.2.2.2.2.2.2 := ⟨by omega, by omega⟩
  obtain ⟨⟨clb, cg, cin, ctb⟩, cck, clv, cll, clt, cac, cbr, cim, c77, ctp, ckl, c43⟩ := q_inv_cls hq
  have clk := hq.2.2.2.2.2.2.1
  have c552 := hq.2.2.2.2.2.2.2.2.2
  refine gq_aldn hc dL_law_714 rfl ?_
  refine gq_aload_n hc dL_law_715 rfl ?_
  refine gq_iload hc dL_law_716 rfl ?_
  refine gq_iconst hc dL_law_718 ?_
  refine gq_iadd hc dL_law_719 ?_
  refine gq_sld hc hX hbl hbA (by omega) (by omega) (by omega) dL_law_720 ?_
  refine gq_aload_n hc dL_law_721 rfl ?_
  refine gq_iload hc dL_law_722 rfl ?_
  refine gq_iconst hc dL_law_724 ?_
  refine gq_iadd hc dL_law_725 ?_
  refine gq_sld hc hX hbl hbA (by omega) (by omega) (by omega) dL_law_726 ?_
  refine gq_callV (as := [gvI (lw_i xs (i + 1)), gvI (lw_i xs (i + 2))]) hc (c_X12_set w hr clb cg cin ctb lw_i32 lw_i32 cac) my_X12_set mv_X12_set ca_0 rfl rfl lm_L_74 rfl rfl (by decide) (by decide) (Nat.le_of_ble_eq_true rfl) hu0 dL_law_727 (fun r1 n1 A1 J1 R1 h1 => ?_)
  obtain ⟨rfl, rfl, hA1, rfl, rfl⟩ := h1
  have hk := k_hi_set (k := (lw_i xs (i + 1))) (v := (lw_i xs (i + 2))) hq lw_i32 lw_i32
  rw [← hA1] at hk
  have g1 := hk.2
  obtain ⟨hm, hu2, hbr, hi2, htp, ⟨hz3, hz7, hz6⟩, h705⟩ := q_inv_ref hq hk.1 hk.2
  refine gq_aldn hc dL_law_730 rfl ?_
  refine gq_aload_n hc dL_law_731 rfl ?_
  refine gq_iload hc dL_law_732 rfl ?_
  refine gq_iconst hc dL_law_734 ?_
  refine gq_iadd hc dL_law_735 ?_
  refine gq_sld hc hX hbl hbA (by omega) (by omega) (by omega) dL_law_736 ?_
  refine gq_aload_n hc dL_law_737 rfl ?_
  refine gq_iload hc dL_law_738 rfl ?_
  refine gq_iconst hc dL_law_740 ?_
  refine gq_iadd hc dL_law_741 ?_
  refine gq_sld hc hX hbl hbA (by omega) (by omega) (by omega) dL_law_742 ?_
  refine gq_callV (as := [gvI (lw_i xs (i + 1)), gvI (lw_i xs (i + 2))]) hc (c_X13_set w hr hm lw_i32 lw_i32 hu2 hz3 hz7) my_X13_set mv_X13_set ca_703 rfl rfl lm_L_77 rfl rfl (by decide) (by decide) (Nat.le_of_ble_eq_true rfl) hu0 dL_law_743 (fun r2 n2 A2 J2 R2 h2 => ?_)
  obtain rfl := h2.1.1
  obtain rfl := h2.1.2.1
  refine gq_icmp_same (tgt := 1724) hc dL_law_746 (by decide) ?_
  subst hA1
  exact kk _ _ _ _ _ (by omega) (by omega) (k_set hq h2)
set_option maxHeartbeats 4000000 in
set_option maxRecDepth 100000 in
theorem L_12 (H : lw_ok w x b Ls xs) (hi : 0 ≤ i ∧ i + 6 ≤ (Ls : Int)) (hu : u + 1 ≤ x.2.2.2.2.2.2.2.2.2.1 ∧ v + 6 ≤ x.2.2.2.2.2.2.2.2.2.2) (hr : g_rf w R lb tx) (hq : q_inv A lb) (kk : lw_K w x P u v b i) : GQ w x P u v g_n A J R 751 (lw_L w b i) [] := by
  obtain ⟨hc, hX, hbl, hbA, hLs, hgx, hst⟩ := H
  have hu0 : u + 0 ≤ x.2.2.2.2.2.2.2.2.2.1 ∧ v + 0 ≤ x.2.2.2.2.2.2.2.2.2.2 := ⟨by omega, by omega⟩
  obtain ⟨⟨clb, cg, cin, ctb⟩, cck, clv, cll, clt, cac, cbr, cim, c77, ctp, ckl, c43⟩ := q_inv_cls hq
  have clk := hq.2.2.2.2.2.2.1
  have c552 := hq.2.2.2.2.2.2.2.2.2
  refine gq_aldn hc dL_law_751 rfl ?_
  refine gq_callV (as := []) hc (c_X12_undo w hr clb cg cin ctb cac (fun k _ _ => c552 k)) my_X12_undo mv_X12_undo ca_0 rfl rfl lm_L_78 rfl rfl (by decide) (by decide) (Nat.le_of_ble_eq_true rfl) hu0 dL_law_752 (fun r1 n1 A1 J1 R1 h1 => ?_)
  obtain ⟨rfl, rfl, hA1, rfl, rfl⟩ := h1
  have hk := k_hi_undo hq
  rw [← hA1] at hk
  have g1 := hk.2
  obtain ⟨hm, hu2, hbr, hi2, htp, ⟨hz3, hz7, hz6⟩, h705⟩ := q_inv_ref hq hk.1 hk.2
  refine gq_aldn hc dL_law_755 rfl ?_
  refine gq_callV (as := []) hc (c_X13_undo w hr hm hu2 hz3 hz7) my_X13_undo mv_X13_undo ca_703 rfl rfl lm_L_81 rfl rfl (by decide) (by decide) (Nat.le_of_ble_eq_true rfl) hu0 dL_law_756 (fun r2 n2 A2 J2 R2 h2 => ?_)
  obtain rfl := h2.1.1
  obtain rfl := h2.1.2.1
  refine gq_icmp_same (tgt := 1724) hc dL_law_759 (by decide) ?_
  subst hA1
  exact kk _ _ _ _ _ (by omega) (by omega) (k_undo hq h2)
set_option maxHeartbeats 4000000 in
set_option maxRecDepth 100000 in
theorem L_13 (H : lw_ok w x b Ls xs) (hi : 0 ≤ i ∧ i + 6 ≤ (Ls : Int)) (hu : u + 1 ≤ x.2.2.2.2.2.2.2.2.2.1 ∧ v + 6 ≤ x.2.2.2.2.2.2.2.2.2.2) (hr : g_rf w R lb tx) (hq : q_inv A lb) (kk : lw_K w x P u v b i) : GQ w x P u v g_n A J R 764 (lw_L w b i) [] := by
  obtain ⟨hc, hX, hbl, hbA, hLs, hgx, hst⟩ := H
  have hu0 : u + 0 ≤ x.2.2.2.2.2.2.2.2.2.1 ∧ v + 0 ≤ x.2.2.2.2.2.2.2.2.2.2 := ⟨by omega, by omega⟩
  obtain ⟨⟨clb, cg, cin, ctb⟩, cck, clv, cll, clt, cac, cbr, cim, c77, ctp, ckl, c43⟩ := q_inv_cls hq
  have clk := hq.2.2.2.2.2.2.1
  have c552 := hq.2.2.2.2.2.2.2.2.2
  refine gq_aldn hc dL_law_764 rfl ?_
  refine gq_aload_n hc dL_law_765 rfl ?_
  refine gq_iload hc dL_law_766 rfl ?_
  refine gq_iconst hc dL_law_768 ?_
  refine gq_iadd hc dL_law_769 ?_
  refine gq_sld hc hX hbl hbA (by omega) (by omega) (by omega) dL_law_770 ?_
  refine gq_callV (as := [gvI (lw_i xs (i + 1))]) hc (c_X12_odds w hr clb cg (fun _ _ => rfl) cg cin ctb lw_i32) my_X12_odds mv_X12_odds ca_0 rfl rfl lm_L_82 rfl rfl (by decide) (by decide) (Nat.le_of_ble_eq_true rfl) hu0 dL_law_771 (fun r1 n1 A1 J1 R1 h1 => ?_)
  obtain ⟨rfl, rfl, e1, g1, hJ9, hR9⟩ := h1
  obtain rfl : J = J1 := hJ9
  obtain rfl : R = R1 := hR9
  have hk : k_hi A A1 := ⟨fun k hk => e1 k (by unfold g_sc; omega), g1⟩
  obtain ⟨hm, hu2, hbr, hi2, htp, ⟨hz3, hz7, hz6⟩, h705⟩ := q_inv_ref hq hk.1 hk.2
  refine gq_aldn hc dL_law_774 rfl ?_
  refine gq_aload_n hc dL_law_775 rfl ?_
  refine gq_iload hc dL_law_776 rfl ?_
  refine gq_iconst hc dL_law_778 ?_
  refine gq_iadd hc dL_law_779 ?_
  refine gq_sld hc hX hbl hbA (by omega) (by omega) (by omega) dL_law_780 ?_
  refine gq_callV (as := [gvI (lw_i xs (i + 1))]) hc (c_X13_odds w hr hm lw_i32) my_X13_odds mv_X13_odds ca_703 rfl rfl lm_L_85 rfl rfl (by decide) (by decide) (Nat.le_of_ble_eq_true rfl) hu0 dL_law_781 (fun r2 n2 A2 J2 R2 h2 => ?_)
  obtain rfl := h2.1
  obtain rfl := h2.2.1
  refine gq_icmp_same (tgt := 1724) hc dL_law_784 (by decide) ?_
  obtain ⟨-, -, e2, g2, -, t2, hr2⟩ := h2
  exact kk _ _ _ _ _ (by omega) (by omega) ⟨lb, t2, hr2, q_inv_ask hq e1 g1 e2 g2⟩
set_option maxHeartbeats 4000000 in
set_option maxRecDepth 100000 in
theorem L_14 (H : lw_ok w x b Ls xs) (hi : 0 ≤ i ∧ i + 6 ≤ (Ls : Int)) (hu : u + 1 ≤ x.2.2.2.2.2.2.2.2.2.1 ∧ v + 6 ≤ x.2.2.2.2.2.2.2.2.2.2) (hr : g_rf w R lb tx) (hq : q_inv A lb) (kk : lw_K w x P u v b i) : GQ w x P u v g_n A J R 789 (lw_L w b i) [] := by
  obtain ⟨hc, hX, hbl, hbA, hLs, hgx, hst⟩ := H
  have hu0 : u + 0 ≤ x.2.2.2.2.2.2.2.2.2.1 ∧ v + 0 ≤ x.2.2.2.2.2.2.2.2.2.2 := ⟨by omega, by omega⟩
  obtain ⟨⟨clb, cg, cin, ctb⟩, cck, clv, cll, clt, cac, cbr, cim, c77, ctp, ckl, c43⟩ := q_inv_cls hq
  have clk := hq.2.2.2.2.2.2.1
  have c552 := hq.2.2.2.2.2.2.2.2.2
  refine gq_aldn hc dL_law_789 rfl ?_
  refine gq_aload_n hc dL_law_790 rfl ?_
  refine gq_iload hc dL_law_791 rfl ?_
  refine gq_iconst hc dL_law_793 ?_
  refine gq_iadd hc dL_law_794 ?_
  refine gq_sld hc hX hbl hbA (by omega) (by omega) (by omega) dL_law_795 ?_
  refine gq_callV (as := [gvI (lw_i xs (i + 1))]) hc (c_X12_mean w hr clb cg (fun _ _ => rfl) cg cin ctb lw_i32) my_X12_mean mv_X12_mean ca_0 rfl rfl lm_L_86 rfl rfl (by decide) (by decide) (Nat.le_of_ble_eq_true rfl) hu0 dL_law_796 (fun r1 n1 A1 J1 R1 h1 => ?_)
  obtain ⟨rfl, rfl, e1, g1, hJ9, hR9⟩ := h1
  obtain rfl : J = J1 := hJ9
  obtain rfl : R = R1 := hR9
  have hk : k_hi A A1 := ⟨fun k hk => e1 k (by unfold g_sc; omega), g1⟩
  obtain ⟨hm, hu2, hbr, hi2, htp, ⟨hz3, hz7, hz6⟩, h705⟩ := q_inv_ref hq hk.1 hk.2
  refine gq_aldn hc dL_law_799 rfl ?_
  refine gq_aload_n hc dL_law_800 rfl ?_
  refine gq_iload hc dL_law_801 rfl ?_
  refine gq_iconst hc dL_law_803 ?_
  refine gq_iadd hc dL_law_804 ?_
  refine gq_sld hc hX hbl hbA (by omega) (by omega) (by omega) dL_law_805 ?_
  refine gq_callV (as := [gvI (lw_i xs (i + 1))]) hc (c_X13_mean w hr hm lw_i32) my_X13_mean mv_X13_mean ca_703 rfl rfl lm_L_89 rfl rfl (by decide) (by decide) (Nat.le_of_ble_eq_true rfl) hu0 dL_law_806 (fun r2 n2 A2 J2 R2 h2 => ?_)
  obtain rfl := h2.1
  obtain rfl := h2.2.1
  refine gq_icmp_same (tgt := 1724) hc dL_law_809 (by decide) ?_
  obtain ⟨-, -, e2, g2, -, t2, hr2⟩ := h2
  exact kk _ _ _ _ _ (by omega) (by omega) ⟨lb, t2, hr2, q_inv_ask hq e1 g1 e2 g2⟩
set_option maxHeartbeats 4000000 in
set_option maxRecDepth 100000 in
theorem L_15 (H : lw_ok w x b Ls xs) (hi : 0 ≤ i ∧ i + 6 ≤ (Ls : Int)) (hu : u + 1 ≤ x.2.2.2.2.2.2.2.2.2.1 ∧ v + 6 ≤ x.2.2.2.2.2.2.2.2.2.2) (hr : g_rf w R lb tx) (hq : q_inv A lb) (kk : lw_K w x P u v b i) : GQ w x P u v g_n A J R 814 (lw_L w b i) [] := by
  obtain ⟨hc, hX, hbl, hbA, hLs, hgx, hst⟩ := H
  have hu0 : u + 0 ≤ x.2.2.2.2.2.2.2.2.2.1 ∧ v + 0 ≤ x.2.2.2.2.2.2.2.2.2.2 := ⟨by omega, by omega⟩
  obtain ⟨⟨clb, cg, cin, ctb⟩, cck, clv, cll, clt, cac, cbr, cim, c77, ctp, ckl, c43⟩ := q_inv_cls hq
  have clk := hq.2.2.2.2.2.2.1
  have c552 := hq.2.2.2.2.2.2.2.2.2
  refine gq_aldn hc dL_law_814 rfl ?_
  refine gq_aload_n hc dL_law_815 rfl ?_
  refine gq_iload hc dL_law_816 rfl ?_
  refine gq_iconst hc dL_law_818 ?_
  refine gq_iadd hc dL_law_819 ?_
  refine gq_sld hc hX hbl hbA (by omega) (by omega) (by omega) dL_law_820 ?_
  refine gq_callV (as := [gvI (lw_i xs (i + 1))]) hc (c_X12_worth w hr clb cg (fun _ _ => rfl) cg cin ctb lw_i32) my_X12_worth mv_X12_worth ca_0 rfl rfl lm_L_90 rfl rfl (by decide) (by decide) (Nat.le_of_ble_eq_true rfl) hu0 dL_law_821 (fun r1 n1 A1 J1 R1 h1 => ?_)
  obtain ⟨rfl, rfl, e1, g1, hJ9, hR9⟩ := h1
  obtain rfl : J = J1 := hJ9
  obtain rfl : R = R1 := hR9
  have hk : k_hi A A1 := ⟨fun k hk => e1 k (by unfold g_sc; omega), g1⟩
  obtain ⟨hm, hu2, hbr, hi2, htp, ⟨hz3, hz7, hz6⟩, h705⟩ := q_inv_ref hq hk.1 hk.2
  refine gq_aldn hc dL_law_824 rfl ?_
  refine gq_aload_n hc dL_law_825 rfl ?_
  refine gq_iload hc dL_law_826 rfl ?_
  refine gq_iconst hc dL_law_828 ?_
  refine gq_iadd hc dL_law_829 ?_
  refine gq_sld hc hX hbl hbA (by omega) (by omega) (by omega) dL_law_830 ?_
  refine gq_callV (as := [gvI (lw_i xs (i + 1))]) hc (c_X13_worth w hr hm lw_i32) my_X13_worth mv_X13_worth ca_703 rfl rfl lm_L_93 rfl rfl (by decide) (by decide) (Nat.le_of_ble_eq_true rfl) hu0 dL_law_831 (fun r2 n2 A2 J2 R2 h2 => ?_)
  obtain rfl := h2.1
  obtain rfl := h2.2.1
  refine gq_icmp_same (tgt := 1724) hc dL_law_834 (by decide) ?_
  obtain ⟨-, -, e2, g2, -, t2, hr2⟩ := h2
  exact kk _ _ _ _ _ (by omega) (by omega) ⟨lb, t2, hr2, q_inv_ask hq e1 g1 e2 g2⟩
set_option maxHeartbeats 4000000 in
set_option maxRecDepth 100000 in
theorem L_16 (H : lw_ok w x b Ls xs) (hi : 0 ≤ i ∧ i + 6 ≤ (Ls : Int)) (hu : u + 1 ≤ x.2.2.2.2.2.2.2.2.2.1 ∧ v + 6 ≤ x.2.2.2.2.2.2.2.2.2.2) (hr : g_rf w R lb tx) (hq : q_inv A lb) (kk : lw_K w x P u v b i) : GQ w x P u v g_n A J R 839 (lw_L w b i) [] := by
  obtain ⟨hc, hX, hbl, hbA, hLs, hgx, hst⟩ := H
  have hu0 : u + 0 ≤ x.2.2.2.2.2.2.2.2.2.1 ∧ v + 0 ≤ x.2.2.2.2.2.2.2.2.2.2 := ⟨by omega, by omega⟩
  obtain ⟨⟨clb, cg, cin, ctb⟩, cck, clv, cll, clt, cac, cbr, cim, c77, ctp, ckl, c43⟩ := q_inv_cls hq
  have clk := hq.2.2.2.2.2.2.1
  have c552 := hq.2.2.2.2.2.2.2.2.2
  refine gq_aldn hc dL_law_839 rfl ?_
  refine gq_aload_n hc dL_law_840 rfl ?_
  refine gq_iload hc dL_law_841 rfl ?_
  refine gq_iconst hc dL_law_843 ?_
  refine gq_iadd hc dL_law_844 ?_
  refine gq_sld hc hX hbl hbA (by omega) (by omega) (by omega) dL_law_845 ?_
  refine gq_aload_n hc dL_law_846 rfl ?_
  refine gq_iload hc dL_law_847 rfl ?_
  refine gq_iconst hc dL_law_849 ?_
  refine gq_iadd hc dL_law_850 ?_
  refine gq_sld hc hX hbl hbA (by omega) (by omega) (by omega) dL_law_851 ?_
  refine gq_callV (as := [gvI (lw_i xs (i + 1)), gvI (lw_i xs (i + 2))]) hc (c_X12_value w hr clb cg (fun _ _ => rfl) cg cin ctb lw_i32 lw_i32) my_X12_value mv_X12_value ca_0 rfl rfl lm_L_94 rfl rfl (by decide) (by decide) (Nat.le_of_ble_eq_true rfl) hu0 dL_law_852 (fun r1 n1 A1 J1 R1 h1 => ?_)
  obtain ⟨rfl, rfl, e1, g1, hJ9, hR9⟩ := h1
  obtain rfl : J = J1 := hJ9
  obtain rfl : R = R1 := hR9
  have hk : k_hi A A1 := ⟨fun k hk => e1 k (by unfold g_sc; omega), g1⟩
  obtain ⟨hm, hu2, hbr, hi2, htp, ⟨hz3, hz7, hz6⟩, h705⟩ := q_inv_ref hq hk.1 hk.2
  refine gq_aldn hc dL_law_855 rfl ?_
  refine gq_aload_n hc dL_law_856 rfl ?_
  refine gq_iload hc dL_law_857 rfl ?_
  refine gq_iconst hc dL_law_859 ?_
  refine gq_iadd hc dL_law_860 ?_
  refine gq_sld hc hX hbl hbA (by omega) (by omega) (by omega) dL_law_861 ?_
  refine gq_aload_n hc dL_law_862 rfl ?_
  refine gq_iload hc dL_law_863 rfl ?_
  refine gq_iconst hc dL_law_865 ?_
  refine gq_iadd hc dL_law_866 ?_
  refine gq_sld hc hX hbl hbA (by omega) (by omega) (by omega) dL_law_867 ?_
  refine gq_callV (as := [gvI (lw_i xs (i + 1)), gvI (lw_i xs (i + 2))]) hc (c_X13_value w hr hm lw_i32 lw_i32) my_X13_value mv_X13_value ca_703 rfl rfl lm_L_97 rfl rfl (by decide) (by decide) (Nat.le_of_ble_eq_true rfl) hu0 dL_law_868 (fun r2 n2 A2 J2 R2 h2 => ?_)
  obtain rfl := h2.1
  obtain rfl := h2.2.1
  refine gq_icmp_same (tgt := 1724) hc dL_law_871 (by decide) ?_
  obtain ⟨-, -, e2, g2, -, t2, hr2⟩ := h2
  exact kk _ _ _ _ _ (by omega) (by omega) ⟨lb, t2, hr2, q_inv_ask hq e1 g1 e2 g2⟩
set_option maxHeartbeats 4000000 in
set_option maxRecDepth 100000 in
theorem L_17 (H : lw_ok w x b Ls xs) (hi : 0 ≤ i ∧ i + 6 ≤ (Ls : Int)) (hu : u + 1 ≤ x.2.2.2.2.2.2.2.2.2.1 ∧ v + 6 ≤ x.2.2.2.2.2.2.2.2.2.2) (hr : g_rf w R lb tx) (hq : q_inv A lb) (kk : lw_K w x P u v b i) : GQ w x P u v g_n A J R 876 (lw_L w b i) [] := by
  obtain ⟨hc, hX, hbl, hbA, hLs, hgx, hst⟩ := H
  have hu0 : u + 0 ≤ x.2.2.2.2.2.2.2.2.2.1 ∧ v + 0 ≤ x.2.2.2.2.2.2.2.2.2.2 := ⟨by omega, by omega⟩
  obtain ⟨⟨clb, cg, cin, ctb⟩, cck, clv, cll, clt, cac, cbr, cim, c77, ctp, ckl, c43⟩ := q_inv_cls hq
  have clk := hq.2.2.2.2.2.2.1
  have c552 := hq.2.2.2.2.2.2.2.2.2
  refine gq_aldn hc dL_law_876 rfl ?_
  refine gq_aload_n hc dL_law_877 rfl ?_
  refine gq_iload hc dL_law_878 rfl ?_
  refine gq_iconst hc dL_law_880 ?_
  refine gq_iadd hc dL_law_881 ?_
  refine gq_sld hc hX hbl hbA (by omega) (by omega) (by omega) dL_law_882 ?_
  refine gq_callV (as := [gvI (lw_i xs (i + 1))]) hc (c_X12_advice w hr clb cg (fun _ _ => rfl) cg cin ctb lw_i32) my_X12_advice mv_X12_advice ca_0 rfl rfl lm_L_98 rfl rfl (by decide) (by decide) (Nat.le_of_ble_eq_true rfl) hu0 dL_law_883 (fun r1 n1 A1 J1 R1 h1 => ?_)
  obtain ⟨rfl, rfl, e1, g1, hJ9, hR9⟩ := h1
  obtain rfl : J = J1 := hJ9
  obtain rfl : R = R1 := hR9
  have hk : k_hi A A1 := ⟨fun k hk => e1 k (by unfold g_sc; omega), g1⟩
  obtain ⟨hm, hu2, hbr, hi2, htp, ⟨hz3, hz7, hz6⟩, h705⟩ := q_inv_ref hq hk.1 hk.2
  refine gq_aldn hc dL_law_886 rfl ?_
  refine gq_aload_n hc dL_law_887 rfl ?_
  refine gq_iload hc dL_law_888 rfl ?_
  refine gq_iconst hc dL_law_890 ?_
  refine gq_iadd hc dL_law_891 ?_
  refine gq_sld hc hX hbl hbA (by omega) (by omega) (by omega) dL_law_892 ?_
  refine gq_callV (as := [gvI (lw_i xs (i + 1))]) hc (c_X13_advice w hr hm lw_i32) my_X13_advice mv_X13_advice ca_703 rfl rfl lm_L_101 rfl rfl (by decide) (by decide) (Nat.le_of_ble_eq_true rfl) hu0 dL_law_893 (fun r2 n2 A2 J2 R2 h2 => ?_)
  obtain rfl := h2.1
  obtain rfl := h2.2.1
  refine gq_icmp_same (tgt := 1724) hc dL_law_896 (by decide) ?_
  obtain ⟨-, -, e2, g2, -, t2, hr2⟩ := h2
  exact kk _ _ _ _ _ (by omega) (by omega) ⟨lb, t2, hr2, q_inv_ask hq e1 g1 e2 g2⟩
set_option maxHeartbeats 4000000 in
set_option maxRecDepth 100000 in
theorem L_18 (H : lw_ok w x b Ls xs) (hi : 0 ≤ i ∧ i + 6 ≤ (Ls : Int)) (hu : u + 1 ≤ x.2.2.2.2.2.2.2.2.2.1 ∧ v + 6 ≤ x.2.2.2.2.2.2.2.2.2.2) (hr : g_rf w R lb tx) (hq : q_inv A lb) (kk : lw_K w x P u v b i) : GQ w x P u v g_n A J R 901 (lw_L w b i) [] := by
  obtain ⟨hc, hX, hbl, hbA, hLs, hgx, hst⟩ := H
  have hu0 : u + 0 ≤ x.2.2.2.2.2.2.2.2.2.1 ∧ v + 0 ≤ x.2.2.2.2.2.2.2.2.2.2 := ⟨by omega, by omega⟩
  obtain ⟨⟨clb, cg, cin, ctb⟩, cck, clv, cll, clt, cac, cbr, cim, c77, ctp, ckl, c43⟩ := q_inv_cls hq
  have clk := hq.2.2.2.2.2.2.1
  have c552 := hq.2.2.2.2.2.2.2.2.2
  refine gq_aldn hc dL_law_901 rfl ?_
  refine gq_aload_n hc dL_law_902 rfl ?_
  refine gq_iload hc dL_law_903 rfl ?_
  refine gq_iconst hc dL_law_905 ?_
  refine gq_iadd hc dL_law_906 ?_
  refine gq_sld hc hX hbl hbA (by omega) (by omega) (by omega) dL_law_907 ?_
  refine gq_aload_n hc dL_law_908 rfl ?_
  refine gq_iload hc dL_law_909 rfl ?_
  refine gq_iconst hc dL_law_911 ?_
  refine gq_iadd hc dL_law_912 ?_
  refine gq_sld hc hX hbl hbA (by omega) (by omega) (by omega) dL_law_913 ?_
  refine gq_callV (as := [gvI (lw_i xs (i + 1)), gvI (lw_i xs (i + 2))]) hc (c_X12_regret w hr clb cg (fun _ _ => rfl) cg cin ctb lw_i32 lw_i32) my_X12_regret mv_X12_regret ca_0 rfl rfl lm_L_102 rfl rfl (by decide) (by decide) (Nat.le_of_ble_eq_true rfl) hu0 dL_law_914 (fun r1 n1 A1 J1 R1 h1 => ?_)
  obtain ⟨rfl, rfl, e1, g1, hJ9, hR9⟩ := h1
  obtain rfl : J = J1 := hJ9
  obtain rfl : R = R1 := hR9
  have hk : k_hi A A1 := ⟨fun k hk => e1 k (by unfold g_sc; omega), g1⟩
  obtain ⟨hm, hu2, hbr, hi2, htp, ⟨hz3, hz7, hz6⟩, h705⟩ := q_inv_ref hq hk.1 hk.2
  refine gq_aldn hc dL_law_917 rfl ?_
  refine gq_aload_n hc dL_law_918 rfl ?_
  refine gq_iload hc dL_law_919 rfl ?_
  refine gq_iconst hc dL_law_921 ?_
  refine gq_iadd hc dL_law_922 ?_
  refine gq_sld hc hX hbl hbA (by omega) (by omega) (by omega) dL_law_923 ?_
  refine gq_aload_n hc dL_law_924 rfl ?_
  refine gq_iload hc dL_law_925 rfl ?_
  refine gq_iconst hc dL_law_927 ?_
  refine gq_iadd hc dL_law_928 ?_
  refine gq_sld hc hX hbl hbA (by omega) (by omega) (by omega) dL_law_929 ?_
  refine gq_callV (as := [gvI (lw_i xs (i + 1)), gvI (lw_i xs (i + 2))]) hc (c_X13_regret w hr hm lw_i32 lw_i32) my_X13_regret mv_X13_regret ca_703 rfl rfl lm_L_105 rfl rfl (by decide) (by decide) (Nat.le_of_ble_eq_true rfl) hu0 dL_law_930 (fun r2 n2 A2 J2 R2 h2 => ?_)
  obtain rfl := h2.1
  obtain rfl := h2.2.1
  refine gq_icmp_same (tgt := 1724) hc dL_law_933 (by decide) ?_
  obtain ⟨-, -, e2, g2, -, t2, hr2⟩ := h2
  exact kk _ _ _ _ _ (by omega) (by omega) ⟨lb, t2, hr2, q_inv_ask hq e1 g1 e2 g2⟩
set_option maxHeartbeats 4000000 in
set_option maxRecDepth 100000 in
theorem L_19 (H : lw_ok w x b Ls xs) (hi : 0 ≤ i ∧ i + 6 ≤ (Ls : Int)) (hu : u + 1 ≤ x.2.2.2.2.2.2.2.2.2.1 ∧ v + 6 ≤ x.2.2.2.2.2.2.2.2.2.2) (hr : g_rf w R lb tx) (hq : q_inv A lb) (kk : lw_K w x P u v b i) : GQ w x P u v g_n A J R 938 (lw_L w b i) [] := by
  obtain ⟨hc, hX, hbl, hbA, hLs, hgx, hst⟩ := H
  have hu0 : u + 0 ≤ x.2.2.2.2.2.2.2.2.2.1 ∧ v + 0 ≤ x.2.2.2.2.2.2.2.2.2.2 := ⟨by omega, by omega⟩
  obtain ⟨⟨clb, cg, cin, ctb⟩, cck, clv, cll, clt, cac, cbr, cim, c77, ctp, ckl, c43⟩ := q_inv_cls hq
  have clk := hq.2.2.2.2.2.2.1
  have c552 := hq.2.2.2.2.2.2.2.2.2
  refine gq_aldn hc dL_law_938 rfl ?_
  refine gq_aload_n hc dL_law_939 rfl ?_
  refine gq_iload hc dL_law_940 rfl ?_
  refine gq_iconst hc dL_law_942 ?_
  refine gq_iadd hc dL_law_943 ?_
  refine gq_sld hc hX hbl hbA (by omega) (by omega) (by omega) dL_law_944 ?_
  refine gq_aload_n hc dL_law_945 rfl ?_
  refine gq_iload hc dL_law_946 rfl ?_
  refine gq_iconst hc dL_law_948 ?_
  refine gq_iadd hc dL_law_949 ?_
  refine gq_sld hc hX hbl hbA (by omega) (by omega) (by omega) dL_law_950 ?_
  refine gq_callV (as := [gvI (lw_i xs (i + 1)), gvI (lw_i xs (i + 2))]) hc (c_X12_sore w hr clb cg (fun _ _ => rfl) cg cin ctb lw_i32 lw_i32) my_X12_sore mv_X12_sore ca_0 rfl rfl lm_L_106 rfl rfl (by decide) (by decide) (Nat.le_of_ble_eq_true rfl) hu0 dL_law_951 (fun r1 n1 A1 J1 R1 h1 => ?_)
  obtain ⟨rfl, rfl, e1, g1, hJ9, hR9⟩ := h1
  obtain rfl : J = J1 := hJ9
  obtain rfl : R = R1 := hR9
  have hk : k_hi A A1 := ⟨fun k hk => e1 k (by unfold g_sc; omega), g1⟩
  obtain ⟨hm, hu2, hbr, hi2, htp, ⟨hz3, hz7, hz6⟩, h705⟩ := q_inv_ref hq hk.1 hk.2
  refine gq_aldn hc dL_law_954 rfl ?_
  refine gq_aload_n hc dL_law_955 rfl ?_
  refine gq_iload hc dL_law_956 rfl ?_
  refine gq_iconst hc dL_law_958 ?_
  refine gq_iadd hc dL_law_959 ?_
  refine gq_sld hc hX hbl hbA (by omega) (by omega) (by omega) dL_law_960 ?_
  refine gq_aload_n hc dL_law_961 rfl ?_
  refine gq_iload hc dL_law_962 rfl ?_
  refine gq_iconst hc dL_law_964 ?_
  refine gq_iadd hc dL_law_965 ?_
  refine gq_sld hc hX hbl hbA (by omega) (by omega) (by omega) dL_law_966 ?_
  refine gq_callV (as := [gvI (lw_i xs (i + 1)), gvI (lw_i xs (i + 2))]) hc (c_X13_sore w hr hm lw_i32 lw_i32) my_X13_sore mv_X13_sore ca_703 rfl rfl lm_L_109 rfl rfl (by decide) (by decide) (Nat.le_of_ble_eq_true rfl) hu0 dL_law_967 (fun r2 n2 A2 J2 R2 h2 => ?_)
  obtain rfl := h2.1
  obtain rfl := h2.2.1
  refine gq_icmp_same (tgt := 1724) hc dL_law_970 (by decide) ?_
  obtain ⟨-, -, e2, g2, -, t2, hr2⟩ := h2
  exact kk _ _ _ _ _ (by omega) (by omega) ⟨lb, t2, hr2, q_inv_ask hq e1 g1 e2 g2⟩
set_option maxHeartbeats 4000000 in
set_option maxRecDepth 100000 in
theorem L_20 (H : lw_ok w x b Ls xs) (hi : 0 ≤ i ∧ i + 6 ≤ (Ls : Int)) (hu : u + 1 ≤ x.2.2.2.2.2.2.2.2.2.1 ∧ v + 6 ≤ x.2.2.2.2.2.2.2.2.2.2) (hr : g_rf w R lb tx) (hq : q_inv A lb) (kk : lw_K w x P u v b i) : GQ w x P u v g_n A J R 975 (lw_L w b i) [] := by
  obtain ⟨hc, hX, hbl, hbA, hLs, hgx, hst⟩ := H
  have hu0 : u + 0 ≤ x.2.2.2.2.2.2.2.2.2.1 ∧ v + 0 ≤ x.2.2.2.2.2.2.2.2.2.2 := ⟨by omega, by omega⟩
  obtain ⟨⟨clb, cg, cin, ctb⟩, cck, clv, cll, clt, cac, cbr, cim, c77, ctp, ckl, c43⟩ := q_inv_cls hq
  have clk := hq.2.2.2.2.2.2.1
  have c552 := hq.2.2.2.2.2.2.2.2.2
  refine gq_aldn hc dL_law_975 rfl ?_
  refine gq_aload_n hc dL_law_976 rfl ?_
  refine gq_iload hc dL_law_977 rfl ?_
  refine gq_iconst hc dL_law_979 ?_
  refine gq_iadd hc dL_law_980 ?_
  refine gq_sld hc hX hbl hbA (by omega) (by omega) (by omega) dL_law_981 ?_
  refine gq_aload_n hc dL_law_982 rfl ?_
  refine gq_iload hc dL_law_983 rfl ?_
  refine gq_iconst hc dL_law_985 ?_
  refine gq_iadd hc dL_law_986 ?_
  refine gq_sld hc hX hbl hbA (by omega) (by omega) (by omega) dL_law_987 ?_
  refine gq_callV (as := [gvI (lw_i xs (i + 1)), gvI (lw_i xs (i + 2))]) hc (c_X12_apology w hr clb cg (fun _ _ => rfl) cg cin ctb lw_i32 lw_i32 c77) my_X12_apology mv_X12_apology ca_0 rfl rfl lm_L_110 rfl rfl (by decide) (by decide) (Nat.le_of_ble_eq_true rfl) hu0 dL_law_988 (fun r1 n1 A1 J1 R1 h1 => ?_)
  obtain ⟨rfl, rfl, e1, g1, hJ9, hR9⟩ := h1
  obtain rfl : J = J1 := hJ9
  obtain rfl : R = R1 := hR9
  have hk : k_hi A A1 := ⟨fun k hk => e1 k (by unfold g_sc; omega), g1⟩
  obtain ⟨hm, hu2, hbr, hi2, htp, ⟨hz3, hz7, hz6⟩, h705⟩ := q_inv_ref hq hk.1 hk.2
  refine gq_aldn hc dL_law_991 rfl ?_
  refine gq_aload_n hc dL_law_992 rfl ?_
  refine gq_iload hc dL_law_993 rfl ?_
  refine gq_iconst hc dL_law_995 ?_
  refine gq_iadd hc dL_law_996 ?_
  refine gq_sld hc hX hbl hbA (by omega) (by omega) (by omega) dL_law_997 ?_
  refine gq_aload_n hc dL_law_998 rfl ?_
  refine gq_iload hc dL_law_999 rfl ?_
  refine gq_iconst hc dL_law_1001 ?_
  refine gq_iadd hc dL_law_1002 ?_
  refine gq_sld hc hX hbl hbA (by omega) (by omega) (by omega) dL_law_1003 ?_
  refine gq_callV (as := [gvI (lw_i xs (i + 1)), gvI (lw_i xs (i + 2))]) hc (c_X13_apology w hr hm lw_i32 lw_i32) my_X13_apology mv_X13_apology ca_703 rfl rfl lm_L_113 rfl rfl (by decide) (by decide) (Nat.le_of_ble_eq_true rfl) hu0 dL_law_1004 (fun r2 n2 A2 J2 R2 h2 => ?_)
  obtain rfl := h2.1
  obtain rfl := h2.2.1
  refine gq_icmp_same (tgt := 1724) hc dL_law_1007 (by decide) ?_
  obtain ⟨-, -, e2, g2, -, t2, hr2⟩ := h2
  exact kk _ _ _ _ _ (by omega) (by omega) ⟨lb, t2, hr2, q_inv_ask hq e1 g1 e2 g2⟩
set_option maxHeartbeats 4000000 in
set_option maxRecDepth 100000 in
theorem L_21 (H : lw_ok w x b Ls xs) (hi : 0 ≤ i ∧ i + 6 ≤ (Ls : Int)) (hu : u + 1 ≤ x.2.2.2.2.2.2.2.2.2.1 ∧ v + 6 ≤ x.2.2.2.2.2.2.2.2.2.2) (hr : g_rf w R lb tx) (hq : q_inv A lb) (kk : lw_K w x P u v b i) : GQ w x P u v g_n A J R 1012 (lw_L w b i) [] := by
  obtain ⟨hc, hX, hbl, hbA, hLs, hgx, hst⟩ := H
  have hu0 : u + 0 ≤ x.2.2.2.2.2.2.2.2.2.1 ∧ v + 0 ≤ x.2.2.2.2.2.2.2.2.2.2 := ⟨by omega, by omega⟩
  obtain ⟨⟨clb, cg, cin, ctb⟩, cck, clv, cll, clt, cac, cbr, cim, c77, ctp, ckl, c43⟩ := q_inv_cls hq
  have clk := hq.2.2.2.2.2.2.1
  have c552 := hq.2.2.2.2.2.2.2.2.2
  refine gq_aldn hc dL_law_1012 rfl ?_
  refine gq_aload_n hc dL_law_1013 rfl ?_
  refine gq_iload hc dL_law_1014 rfl ?_
  refine gq_iconst hc dL_law_1016 ?_
  refine gq_iadd hc dL_law_1017 ?_
  refine gq_sld hc hX hbl hbA (by omega) (by omega) (by omega) dL_law_1018 ?_
  refine gq_aload_n hc dL_law_1019 rfl ?_
  refine gq_iload hc dL_law_1020 rfl ?_
  refine gq_iconst hc dL_law_1022 ?_
  refine gq_iadd hc dL_law_1023 ?_
  refine gq_sld hc hX hbl hbA (by omega) (by omega) (by omega) dL_law_1024 ?_
  refine gq_callV (as := [gvI (lw_i xs (i + 1)), gvI (lw_i xs (i + 2))]) hc (c_X12_share w hr clb cg (fun _ _ => rfl) cg cin ctb lw_i32 lw_i32) my_X12_share mv_X12_share ca_0 rfl rfl lm_L_114 rfl rfl (by decide) (by decide) (Nat.le_of_ble_eq_true rfl) hu0 dL_law_1025 (fun r1 n1 A1 J1 R1 h1 => ?_)
  obtain ⟨rfl, rfl, e1, g1, hJ9, hR9⟩ := h1
  obtain rfl : J = J1 := hJ9
  obtain rfl : R = R1 := hR9
  have hk : k_hi A A1 := ⟨fun k hk => e1 k (by unfold g_sc; omega), g1⟩
  obtain ⟨hm, hu2, hbr, hi2, htp, ⟨hz3, hz7, hz6⟩, h705⟩ := q_inv_ref hq hk.1 hk.2
  refine gq_aldn hc dL_law_1028 rfl ?_
  refine gq_aload_n hc dL_law_1029 rfl ?_
  refine gq_iload hc dL_law_1030 rfl ?_
  refine gq_iconst hc dL_law_1032 ?_
  refine gq_iadd hc dL_law_1033 ?_
  refine gq_sld hc hX hbl hbA (by omega) (by omega) (by omega) dL_law_1034 ?_
  refine gq_aload_n hc dL_law_1035 rfl ?_
  refine gq_iload hc dL_law_1036 rfl ?_
  refine gq_iconst hc dL_law_1038 ?_
  refine gq_iadd hc dL_law_1039 ?_
  refine gq_sld hc hX hbl hbA (by omega) (by omega) (by omega) dL_law_1040 ?_
  refine gq_callV (as := [gvI (lw_i xs (i + 1)), gvI (lw_i xs (i + 2))]) hc (c_X13_share w hr hm lw_i32 lw_i32) my_X13_share mv_X13_share ca_703 rfl rfl lm_L_117 rfl rfl (by decide) (by decide) (Nat.le_of_ble_eq_true rfl) hu0 dL_law_1041 (fun r2 n2 A2 J2 R2 h2 => ?_)
  obtain rfl := h2.1
  obtain rfl := h2.2.1
  refine gq_icmp_same (tgt := 1724) hc dL_law_1044 (by decide) ?_
  obtain ⟨-, -, e2, g2, -, t2, hr2⟩ := h2
  exact kk _ _ _ _ _ (by omega) (by omega) ⟨lb, t2, hr2, q_inv_ask hq e1 g1 e2 g2⟩
set_option maxHeartbeats 4000000 in
set_option maxRecDepth 100000 in
theorem L_22 (H : lw_ok w x b Ls xs) (hi : 0 ≤ i ∧ i + 6 ≤ (Ls : Int)) (hu : u + 1 ≤ x.2.2.2.2.2.2.2.2.2.1 ∧ v + 6 ≤ x.2.2.2.2.2.2.2.2.2.2) (hr : g_rf w R lb tx) (hq : q_inv A lb) (kk : lw_K w x P u v b i) : GQ w x P u v g_n A J R 1049 (lw_L w b i) [] := by
  obtain ⟨hc, hX, hbl, hbA, hLs, hgx, hst⟩ := H
  have hu0 : u + 0 ≤ x.2.2.2.2.2.2.2.2.2.1 ∧ v + 0 ≤ x.2.2.2.2.2.2.2.2.2.2 := ⟨by omega, by omega⟩
  obtain ⟨⟨clb, cg, cin, ctb⟩, cck, clv, cll, clt, cac, cbr, cim, c77, ctp, ckl, c43⟩ := q_inv_cls hq
  have clk := hq.2.2.2.2.2.2.1
  have c552 := hq.2.2.2.2.2.2.2.2.2
  refine gq_aldn hc dL_law_1049 rfl ?_
  refine gq_aload_n hc dL_law_1050 rfl ?_
  refine gq_iload hc dL_law_1051 rfl ?_
  refine gq_iconst hc dL_law_1053 ?_
  refine gq_iadd hc dL_law_1054 ?_
  refine gq_sld hc hX hbl hbA (by omega) (by omega) (by omega) dL_law_1055 ?_
  refine gq_callV (as := [gvI (lw_i xs (i + 1))]) hc (c_X12_demand w hr clb cg (fun _ _ => rfl) cg cin ctb lw_i32) my_X12_demand mv_X12_demand ca_0 rfl rfl lm_L_118 rfl rfl (by decide) (by decide) (Nat.le_of_ble_eq_true rfl) hu0 dL_law_1056 (fun r1 n1 A1 J1 R1 h1 => ?_)
  obtain ⟨rfl, rfl, e1, g1, hJ9, hR9⟩ := h1
  obtain rfl : J = J1 := hJ9
  obtain rfl : R = R1 := hR9
  have hk : k_hi A A1 := ⟨fun k hk => e1 k (by unfold g_sc; omega), g1⟩
  obtain ⟨hm, hu2, hbr, hi2, htp, ⟨hz3, hz7, hz6⟩, h705⟩ := q_inv_ref hq hk.1 hk.2
  refine gq_aldn hc dL_law_1059 rfl ?_
  refine gq_aload_n hc dL_law_1060 rfl ?_
  refine gq_iload hc dL_law_1061 rfl ?_
  refine gq_iconst hc dL_law_1063 ?_
  refine gq_iadd hc dL_law_1064 ?_
  refine gq_sld hc hX hbl hbA (by omega) (by omega) (by omega) dL_law_1065 ?_
  refine gq_callV (as := [gvI (lw_i xs (i + 1))]) hc (c_X13_demand w hr hm lw_i32) my_X13_demand mv_X13_demand ca_703 rfl rfl lm_L_121 rfl rfl (by decide) (by decide) (Nat.le_of_ble_eq_true rfl) hu0 dL_law_1066 (fun r2 n2 A2 J2 R2 h2 => ?_)
  obtain rfl := h2.1
  obtain rfl := h2.2.1
  refine gq_icmp_same (tgt := 1724) hc dL_law_1069 (by decide) ?_
  obtain ⟨-, -, e2, g2, -, t2, hr2⟩ := h2
  exact kk _ _ _ _ _ (by omega) (by omega) ⟨lb, t2, hr2, q_inv_ask hq e1 g1 e2 g2⟩
set_option maxHeartbeats 4000000 in
set_option maxRecDepth 100000 in
theorem L_23 (H : lw_ok w x b Ls xs) (hi : 0 ≤ i ∧ i + 6 ≤ (Ls : Int)) (hu : u + 1 ≤ x.2.2.2.2.2.2.2.2.2.1 ∧ v + 6 ≤ x.2.2.2.2.2.2.2.2.2.2) (hr : g_rf w R lb tx) (hq : q_inv A lb) (kk : lw_K w x P u v b i) : GQ w x P u v g_n A J R 1074 (lw_L w b i) [] := by
  obtain ⟨hc, hX, hbl, hbA, hLs, hgx, hst⟩ := H
  have hu0 : u + 0 ≤ x.2.2.2.2.2.2.2.2.2.1 ∧ v + 0 ≤ x.2.2.2.2.2.2.2.2.2.2 := ⟨by omega, by omega⟩
  obtain ⟨⟨clb, cg, cin, ctb⟩, cck, clv, cll, clt, cac, cbr, cim, c77, ctp, ckl, c43⟩ := q_inv_cls hq
  have clk := hq.2.2.2.2.2.2.1
  have c552 := hq.2.2.2.2.2.2.2.2.2
  refine gq_aldn hc dL_law_1074 rfl ?_
  refine gq_aload_n hc dL_law_1075 rfl ?_
  refine gq_iload hc dL_law_1076 rfl ?_
  refine gq_iconst hc dL_law_1078 ?_
  refine gq_iadd hc dL_law_1079 ?_
  refine gq_sld hc hX hbl hbA (by omega) (by omega) (by omega) dL_law_1080 ?_
  refine gq_callV (as := [gvI (lw_i xs (i + 1))]) hc (c_X12_terms w hr clb cg (fun _ _ => rfl) cg cin ctb lw_i32) my_X12_terms mv_X12_terms ca_0 rfl rfl lm_L_122 rfl rfl (by decide) (by decide) (Nat.le_of_ble_eq_true rfl) hu0 dL_law_1081 (fun r1 n1 A1 J1 R1 h1 => ?_)
  obtain ⟨rfl, rfl, e1, g1, hJ9, hR9⟩ := h1
  obtain rfl : J = J1 := hJ9
  obtain rfl : R = R1 := hR9
  have hk : k_hi A A1 := ⟨fun k hk => e1 k (by unfold g_sc; omega), g1⟩
  obtain ⟨hm, hu2, hbr, hi2, htp, ⟨hz3, hz7, hz6⟩, h705⟩ := q_inv_ref hq hk.1 hk.2
  refine gq_aldn hc dL_law_1084 rfl ?_
  refine gq_aload_n hc dL_law_1085 rfl ?_
  refine gq_iload hc dL_law_1086 rfl ?_
  refine gq_iconst hc dL_law_1088 ?_
  refine gq_iadd hc dL_law_1089 ?_
  refine gq_sld hc hX hbl hbA (by omega) (by omega) (by omega) dL_law_1090 ?_
  refine gq_callV (as := [gvI (lw_i xs (i + 1))]) hc (c_X13_terms w hr hm lw_i32) my_X13_terms mv_X13_terms ca_703 rfl rfl lm_L_125 rfl rfl (by decide) (by decide) (Nat.le_of_ble_eq_true rfl) hu0 dL_law_1091 (fun r2 n2 A2 J2 R2 h2 => ?_)
  obtain rfl := h2.1
  obtain rfl := h2.2.1
  refine gq_icmp_same (tgt := 1724) hc dL_law_1094 (by decide) ?_
  obtain ⟨-, -, e2, g2, -, t2, hr2⟩ := h2
  exact kk _ _ _ _ _ (by omega) (by omega) ⟨lb, t2, hr2, q_inv_ask hq e1 g1 e2 g2⟩
set_option maxHeartbeats 4000000 in
set_option maxRecDepth 100000 in
theorem L_24 (H : lw_ok w x b Ls xs) (hi : 0 ≤ i ∧ i + 6 ≤ (Ls : Int)) (hu : u + 1 ≤ x.2.2.2.2.2.2.2.2.2.1 ∧ v + 6 ≤ x.2.2.2.2.2.2.2.2.2.2) (hr : g_rf w R lb tx) (hq : q_inv A lb) (kk : lw_K w x P u v b i) : GQ w x P u v g_n A J R 1099 (lw_L w b i) [] := by
  obtain ⟨hc, hX, hbl, hbA, hLs, hgx, hst⟩ := H
  have hu0 : u + 0 ≤ x.2.2.2.2.2.2.2.2.2.1 ∧ v + 0 ≤ x.2.2.2.2.2.2.2.2.2.2 := ⟨by omega, by omega⟩
  obtain ⟨⟨clb, cg, cin, ctb⟩, cck, clv, cll, clt, cac, cbr, cim, c77, ctp, ckl, c43⟩ := q_inv_cls hq
  have clk := hq.2.2.2.2.2.2.1
  have c552 := hq.2.2.2.2.2.2.2.2.2
  refine gq_aldn hc dL_law_1099 rfl ?_
  refine gq_aload_n hc dL_law_1100 rfl ?_
  refine gq_iload hc dL_law_1101 rfl ?_
  refine gq_iconst hc dL_law_1103 ?_
  refine gq_iadd hc dL_law_1104 ?_
  refine gq_sld hc hX hbl hbA (by omega) (by omega) (by omega) dL_law_1105 ?_
  refine gq_callV (as := [gvI (lw_i xs (i + 1))]) hc (c_X12_away w hr clb cg (fun _ _ => rfl) cg cin ctb lw_i32) my_X12_away mv_X12_away ca_0 rfl rfl lm_L_126 rfl rfl (by decide) (by decide) (Nat.le_of_ble_eq_true rfl) hu0 dL_law_1106 (fun r1 n1 A1 J1 R1 h1 => ?_)
  obtain ⟨rfl, rfl, e1, g1, hJ9, hR9⟩ := h1
  obtain rfl : J = J1 := hJ9
  obtain rfl : R = R1 := hR9
  have hk : k_hi A A1 := ⟨fun k hk => e1 k (by unfold g_sc; omega), g1⟩
  obtain ⟨hm, hu2, hbr, hi2, htp, ⟨hz3, hz7, hz6⟩, h705⟩ := q_inv_ref hq hk.1 hk.2
  refine gq_aldn hc dL_law_1109 rfl ?_
  refine gq_aload_n hc dL_law_1110 rfl ?_
  refine gq_iload hc dL_law_1111 rfl ?_
  refine gq_iconst hc dL_law_1113 ?_
  refine gq_iadd hc dL_law_1114 ?_
  refine gq_sld hc hX hbl hbA (by omega) (by omega) (by omega) dL_law_1115 ?_
  refine gq_callV (as := [gvI (lw_i xs (i + 1))]) hc (c_X13_away w hr hm lw_i32) my_X13_away mv_X13_away ca_703 rfl rfl lm_L_129 rfl rfl (by decide) (by decide) (Nat.le_of_ble_eq_true rfl) hu0 dL_law_1116 (fun r2 n2 A2 J2 R2 h2 => ?_)
  obtain rfl := h2.1
  obtain rfl := h2.2.1
  refine gq_icmp_same (tgt := 1724) hc dL_law_1119 (by decide) ?_
  obtain ⟨-, -, e2, g2, -, t2, hr2⟩ := h2
  exact kk _ _ _ _ _ (by omega) (by omega) ⟨lb, t2, hr2, q_inv_ask hq e1 g1 e2 g2⟩
set_option maxHeartbeats 4000000 in
set_option maxRecDepth 100000 in
theorem L_25 (H : lw_ok w x b Ls xs) (hi : 0 ≤ i ∧ i + 6 ≤ (Ls : Int)) (hu : u + 1 ≤ x.2.2.2.2.2.2.2.2.2.1 ∧ v + 6 ≤ x.2.2.2.2.2.2.2.2.2.2) (hr : g_rf w R lb tx) (hq : q_inv A lb) (kk : lw_K w x P u v b i) : GQ w x P u v g_n A J R 1124 (lw_L w b i) [] := by
  obtain ⟨hc, hX, hbl, hbA, hLs, hgx, hst⟩ := H
  have hu0 : u + 0 ≤ x.2.2.2.2.2.2.2.2.2.1 ∧ v + 0 ≤ x.2.2.2.2.2.2.2.2.2.2 := ⟨by omega, by omega⟩
  obtain ⟨⟨clb, cg, cin, ctb⟩, cck, clv, cll, clt, cac, cbr, cim, c77, ctp, ckl, c43⟩ := q_inv_cls hq
  have clk := hq.2.2.2.2.2.2.1
  have c552 := hq.2.2.2.2.2.2.2.2.2
  refine gq_aldn hc dL_law_1124 rfl ?_
  refine gq_aload_n hc dL_law_1125 rfl ?_
  refine gq_iload hc dL_law_1126 rfl ?_
  refine gq_iconst hc dL_law_1128 ?_
  refine gq_iadd hc dL_law_1129 ?_
  refine gq_sld hc hX hbl hbA (by omega) (by omega) (by omega) dL_law_1130 ?_
  refine gq_callV (as := [gvI (lw_i xs (i + 1))]) hc (c_X12_elected w hr clb cg (fun _ _ => rfl) cg cin ctb lw_i32) my_X12_elected mv_X12_elected ca_0 rfl rfl lm_L_130 rfl rfl (by decide) (by decide) (Nat.le_of_ble_eq_true rfl) hu0 dL_law_1131 (fun r1 n1 A1 J1 R1 h1 => ?_)
  obtain ⟨rfl, rfl, e1, g1, hJ9, hR9⟩ := h1
  obtain rfl : J = J1 := hJ9
  obtain rfl : R = R1 := hR9
  have hk : k_hi A A1 := ⟨fun k hk => e1 k (by unfold g_sc; omega), g1⟩
  obtain ⟨hm, hu2, hbr, hi2, htp, ⟨hz3, hz7, hz6⟩, h705⟩ := q_inv_ref hq hk.1 hk.2
  refine gq_aldn hc dL_law_1134 rfl ?_
  refine gq_aload_n hc dL_law_1135 rfl ?_
  refine gq_iload hc dL_law_1136 rfl ?_
  refine gq_iconst hc dL_law_1138 ?_
  refine gq_iadd hc dL_law_1139 ?_
  refine gq_sld hc hX hbl hbA (by omega) (by omega) (by omega) dL_law_1140 ?_
  refine gq_callV (as := [gvI (lw_i xs (i + 1))]) hc (c_X13_elected w hr hm lw_i32) my_X13_elected mv_X13_elected ca_703 rfl rfl lm_L_133 rfl rfl (by decide) (by decide) (Nat.le_of_ble_eq_true rfl) hu0 dL_law_1141 (fun r2 n2 A2 J2 R2 h2 => ?_)
  obtain rfl := h2.1
  obtain rfl := h2.2.1
  refine gq_icmp_same (tgt := 1724) hc dL_law_1144 (by decide) ?_
  obtain ⟨-, -, e2, g2, -, t2, hr2⟩ := h2
  exact kk _ _ _ _ _ (by omega) (by omega) ⟨lb, t2, hr2, q_inv_ask hq e1 g1 e2 g2⟩
set_option maxHeartbeats 4000000 in
set_option maxRecDepth 100000 in
theorem L_26 (H : lw_ok w x b Ls xs) (hi : 0 ≤ i ∧ i + 6 ≤ (Ls : Int)) (hu : u + 1 ≤ x.2.2.2.2.2.2.2.2.2.1 ∧ v + 6 ≤ x.2.2.2.2.2.2.2.2.2.2) (hr : g_rf w R lb tx) (hq : q_inv A lb) (kk : lw_K w x P u v b i) : GQ w x P u v g_n A J R 1149 (lw_L w b i) [] := by
  obtain ⟨hc, hX, hbl, hbA, hLs, hgx, hst⟩ := H
  have hu0 : u + 0 ≤ x.2.2.2.2.2.2.2.2.2.1 ∧ v + 0 ≤ x.2.2.2.2.2.2.2.2.2.2 := ⟨by omega, by omega⟩
  obtain ⟨⟨clb, cg, cin, ctb⟩, cck, clv, cll, clt, cac, cbr, cim, c77, ctp, ckl, c43⟩ := q_inv_cls hq
  have clk := hq.2.2.2.2.2.2.1
  have c552 := hq.2.2.2.2.2.2.2.2.2
  refine gq_aldn hc dL_law_1149 rfl ?_
  refine gq_aload_n hc dL_law_1150 rfl ?_
  refine gq_iload hc dL_law_1151 rfl ?_
  refine gq_iconst hc dL_law_1153 ?_
  refine gq_iadd hc dL_law_1154 ?_
  refine gq_sld hc hX hbl hbA (by omega) (by omega) (by omega) dL_law_1155 ?_
  refine gq_aload_n hc dL_law_1156 rfl ?_
  refine gq_iload hc dL_law_1157 rfl ?_
  refine gq_iconst hc dL_law_1159 ?_
  refine gq_iadd hc dL_law_1160 ?_
  refine gq_sld hc hX hbl hbA (by omega) (by omega) (by omega) dL_law_1161 ?_
  refine gq_callV (as := [gvI (lw_i xs (i + 1)), gvI (lw_i xs (i + 2))]) hc (c_X12_duel w hr clb cg (fun _ _ => rfl) cg cin ctb lw_i32 lw_i32) my_X12_duel mv_X12_duel ca_0 rfl rfl lm_L_134 rfl rfl (by decide) (by decide) (Nat.le_of_ble_eq_true rfl) hu0 dL_law_1162 (fun r1 n1 A1 J1 R1 h1 => ?_)
  obtain ⟨rfl, rfl, e1, g1, hJ9, hR9⟩ := h1
  obtain rfl : J = J1 := hJ9
  obtain rfl : R = R1 := hR9
  have hk : k_hi A A1 := ⟨fun k hk => e1 k (by unfold g_sc; omega), g1⟩
  obtain ⟨hm, hu2, hbr, hi2, htp, ⟨hz3, hz7, hz6⟩, h705⟩ := q_inv_ref hq hk.1 hk.2
  refine gq_aldn hc dL_law_1165 rfl ?_
  refine gq_aload_n hc dL_law_1166 rfl ?_
  refine gq_iload hc dL_law_1167 rfl ?_
  refine gq_iconst hc dL_law_1169 ?_
  refine gq_iadd hc dL_law_1170 ?_
  refine gq_sld hc hX hbl hbA (by omega) (by omega) (by omega) dL_law_1171 ?_
  refine gq_aload_n hc dL_law_1172 rfl ?_
  refine gq_iload hc dL_law_1173 rfl ?_
  refine gq_iconst hc dL_law_1175 ?_
  refine gq_iadd hc dL_law_1176 ?_
  refine gq_sld hc hX hbl hbA (by omega) (by omega) (by omega) dL_law_1177 ?_
  refine gq_callV (as := [gvI (lw_i xs (i + 1)), gvI (lw_i xs (i + 2))]) hc (c_X13_duel w hr hm lw_i32 lw_i32) my_X13_duel mv_X13_duel ca_703 rfl rfl lm_L_137 rfl rfl (by decide) (by decide) (Nat.le_of_ble_eq_true rfl) hu0 dL_law_1178 (fun r2 n2 A2 J2 R2 h2 => ?_)
  obtain rfl := h2.1
  obtain rfl := h2.2.1
  refine gq_icmp_same (tgt := 1724) hc dL_law_1181 (by decide) ?_
  obtain ⟨-, -, e2, g2, -, t2, hr2⟩ := h2
  exact kk _ _ _ _ _ (by omega) (by omega) ⟨lb, t2, hr2, q_inv_ask hq e1 g1 e2 g2⟩
set_option maxHeartbeats 4000000 in
set_option maxRecDepth 100000 in
theorem L_27 (H : lw_ok w x b Ls xs) (hi : 0 ≤ i ∧ i + 6 ≤ (Ls : Int)) (hu : u + 1 ≤ x.2.2.2.2.2.2.2.2.2.1 ∧ v + 6 ≤ x.2.2.2.2.2.2.2.2.2.2) (hr : g_rf w R lb tx) (hq : q_inv A lb) (kk : lw_K w x P u v b i) : GQ w x P u v g_n A J R 1186 (lw_L w b i) [] := by
  obtain ⟨hc, hX, hbl, hbA, hLs, hgx, hst⟩ := H
  have hu0 : u + 0 ≤ x.2.2.2.2.2.2.2.2.2.1 ∧ v + 0 ≤ x.2.2.2.2.2.2.2.2.2.2 := ⟨by omega, by omega⟩
  obtain ⟨⟨clb, cg, cin, ctb⟩, cck, clv, cll, clt, cac, cbr, cim, c77, ctp, ckl, c43⟩ := q_inv_cls hq
  have clk := hq.2.2.2.2.2.2.1
  have c552 := hq.2.2.2.2.2.2.2.2.2
  refine gq_aldn hc dL_law_1186 rfl ?_
  refine gq_callV (as := []) hc (c_X12_beats w hr clb cg (fun _ _ => rfl) cg cin ctb) my_X12_beats mv_X12_beats ca_0 rfl rfl lm_L_138 rfl rfl (by decide) (by decide) (Nat.le_of_ble_eq_true rfl) hu0 dL_law_1187 (fun r1 n1 A1 J1 R1 h1 => ?_)
  obtain ⟨rfl, rfl, e1, g1, hJ9, hR9⟩ := h1
  obtain rfl : J = J1 := hJ9
  obtain rfl : R = R1 := hR9
  have hk : k_hi A A1 := ⟨fun k hk => e1 k (by unfold g_sc; omega), g1⟩
  obtain ⟨hm, hu2, hbr, hi2, htp, ⟨hz3, hz7, hz6⟩, h705⟩ := q_inv_ref hq hk.1 hk.2
  refine gq_aldn hc dL_law_1190 rfl ?_
  refine gq_callV (as := []) hc (c_X13_beats w hr hm) my_X13_beats mv_X13_beats ca_703 rfl rfl lm_L_141 rfl rfl (by decide) (by decide) (Nat.le_of_ble_eq_true rfl) hu0 dL_law_1191 (fun r2 n2 A2 J2 R2 h2 => ?_)
  obtain rfl := h2.1
  obtain rfl := h2.2.1
  refine gq_icmp_same (tgt := 1724) hc dL_law_1194 (by decide) ?_
  obtain ⟨-, -, e2, g2, -, t2, hr2⟩ := h2
  exact kk _ _ _ _ _ (by omega) (by omega) ⟨lb, t2, hr2, q_inv_ask hq e1 g1 e2 g2⟩
set_option maxHeartbeats 4000000 in
set_option maxRecDepth 100000 in
theorem L_28 (H : lw_ok w x b Ls xs) (hi : 0 ≤ i ∧ i + 6 ≤ (Ls : Int)) (hu : u + 1 ≤ x.2.2.2.2.2.2.2.2.2.1 ∧ v + 6 ≤ x.2.2.2.2.2.2.2.2.2.2) (hr : g_rf w R lb tx) (hq : q_inv A lb) (kk : lw_K w x P u v b i) : GQ w x P u v g_n A J R 1199 (lw_L w b i) [] := by
  obtain ⟨hc, hX, hbl, hbA, hLs, hgx, hst⟩ := H
  have hu0 : u + 0 ≤ x.2.2.2.2.2.2.2.2.2.1 ∧ v + 0 ≤ x.2.2.2.2.2.2.2.2.2.2 := ⟨by omega, by omega⟩
  obtain ⟨⟨clb, cg, cin, ctb⟩, cck, clv, cll, clt, cac, cbr, cim, c77, ctp, ckl, c43⟩ := q_inv_cls hq
  have clk := hq.2.2.2.2.2.2.1
  have c552 := hq.2.2.2.2.2.2.2.2.2
  refine gq_aldn hc dL_law_1199 rfl ?_
  refine gq_callV (as := []) hc (c_X12_ring w hr clb cg (fun _ _ => rfl) cg cin ctb) my_X12_ring mv_X12_ring ca_0 rfl rfl lm_L_142 rfl rfl (by decide) (by decide) (Nat.le_of_ble_eq_true rfl) hu0 dL_law_1200 (fun r1 n1 A1 J1 R1 h1 => ?_)
  obtain ⟨rfl, rfl, e1, g1, hJ9, hR9⟩ := h1
  obtain rfl : J = J1 := hJ9
  obtain rfl : R = R1 := hR9
  have hk : k_hi A A1 := ⟨fun k hk => e1 k (by unfold g_sc; omega), g1⟩
  obtain ⟨hm, hu2, hbr, hi2, htp, ⟨hz3, hz7, hz6⟩, h705⟩ := q_inv_ref hq hk.1 hk.2
  refine gq_aldn hc dL_law_1203 rfl ?_
  refine gq_callV (as := []) hc (c_X13_ring w hr hm) my_X13_ring mv_X13_ring ca_703 rfl rfl lm_L_145 rfl rfl (by decide) (by decide) (Nat.le_of_ble_eq_true rfl) hu0 dL_law_1204 (fun r2 n2 A2 J2 R2 h2 => ?_)
  obtain rfl := h2.1
  obtain rfl := h2.2.1
  refine gq_icmp_same (tgt := 1724) hc dL_law_1207 (by decide) ?_
  obtain ⟨-, -, e2, g2, -, t2, hr2⟩ := h2
  exact kk _ _ _ _ _ (by omega) (by omega) ⟨lb, t2, hr2, q_inv_ask hq e1 g1 e2 g2⟩
set_option maxHeartbeats 4000000 in
set_option maxRecDepth 100000 in
theorem L_29 (H : lw_ok w x b Ls xs) (hi : 0 ≤ i ∧ i + 6 ≤ (Ls : Int)) (hu : u + 1 ≤ x.2.2.2.2.2.2.2.2.2.1 ∧ v + 6 ≤ x.2.2.2.2.2.2.2.2.2.2) (hr : g_rf w R lb tx) (hq : q_inv A lb) (kk : lw_K w x P u v b i) : GQ w x P u v g_n A J R 1212 (lw_L w b i) [] := by
  obtain ⟨hc, hX, hbl, hbA, hLs, hgx, hst⟩ := H
  have hu0 : u + 0 ≤ x.2.2.2.2.2.2.2.2.2.1 ∧ v + 0 ≤ x.2.2.2.2.2.2.2.2.2.2 := ⟨by omega, by omega⟩
  obtain ⟨⟨clb, cg, cin, ctb⟩, cck, clv, cll, clt, cac, cbr, cim, c77, ctp, ckl, c43⟩ := q_inv_cls hq
  have clk := hq.2.2.2.2.2.2.1
  have c552 := hq.2.2.2.2.2.2.2.2.2
  refine gq_aldn hc dL_law_1212 rfl ?_
  refine gq_aload_n hc dL_law_1213 rfl ?_
  refine gq_iload hc dL_law_1214 rfl ?_
  refine gq_iconst hc dL_law_1216 ?_
  refine gq_iadd hc dL_law_1217 ?_
  refine gq_sld hc hX hbl hbA (by omega) (by omega) (by omega) dL_law_1218 ?_
  refine gq_callV (as := [gvI (lw_i xs (i + 1))]) hc (c_X12_all w hr clb cg (fun _ _ => rfl) cg cin ctb lw_i32) my_X12_all mv_X12_all ca_0 rfl rfl lm_L_146 rfl rfl (by decide) (by decide) (Nat.le_of_ble_eq_true rfl) hu0 dL_law_1219 (fun r1 n1 A1 J1 R1 h1 => ?_)
  obtain ⟨rfl, rfl, e1, g1, hJ9, hR9⟩ := h1
  obtain rfl : J = J1 := hJ9
  obtain rfl : R = R1 := hR9
  have hk : k_hi A A1 := ⟨fun k hk => e1 k (by unfold g_sc; omega), g1⟩
  obtain ⟨hm, hu2, hbr, hi2, htp, ⟨hz3, hz7, hz6⟩, h705⟩ := q_inv_ref hq hk.1 hk.2
  refine gq_aldn hc dL_law_1222 rfl ?_
  refine gq_aload_n hc dL_law_1223 rfl ?_
  refine gq_iload hc dL_law_1224 rfl ?_
  refine gq_iconst hc dL_law_1226 ?_
  refine gq_iadd hc dL_law_1227 ?_
  refine gq_sld hc hX hbl hbA (by omega) (by omega) (by omega) dL_law_1228 ?_
  refine gq_callV (as := [gvI (lw_i xs (i + 1))]) hc (c_X13_all w hr hm lw_i32) my_X13_all mv_X13_all ca_703 rfl rfl lm_L_149 rfl rfl (by decide) (by decide) (Nat.le_of_ble_eq_true rfl) hu0 dL_law_1229 (fun r2 n2 A2 J2 R2 h2 => ?_)
  obtain rfl := h2.1
  obtain rfl := h2.2.1
  refine gq_icmp_same (tgt := 1724) hc dL_law_1232 (by decide) ?_
  obtain ⟨-, -, e2, g2, -, t2, hr2⟩ := h2
  exact kk _ _ _ _ _ (by omega) (by omega) ⟨lb, t2, hr2, q_inv_ask hq e1 g1 e2 g2⟩
set_option maxHeartbeats 4000000 in
set_option maxRecDepth 100000 in
theorem L_30 (H : lw_ok w x b Ls xs) (hi : 0 ≤ i ∧ i + 6 ≤ (Ls : Int)) (hu : u + 1 ≤ x.2.2.2.2.2.2.2.2.2.1 ∧ v + 6 ≤ x.2.2.2.2.2.2.2.2.2.2) (hr : g_rf w R lb tx) (hq : q_inv A lb) (kk : lw_K w x P u v b i) : GQ w x P u v g_n A J R 1237 (lw_L w b i) [] := by
  obtain ⟨hc, hX, hbl, hbA, hLs, hgx, hst⟩ := H
  have hu0 : u + 0 ≤ x.2.2.2.2.2.2.2.2.2.1 ∧ v + 0 ≤ x.2.2.2.2.2.2.2.2.2.2 := ⟨by omega, by omega⟩
  obtain ⟨⟨clb, cg, cin, ctb⟩, cck, clv, cll, clt, cac, cbr, cim, c77, ctp, ckl, c43⟩ := q_inv_cls hq
  have clk := hq.2.2.2.2.2.2.1
  have c552 := hq.2.2.2.2.2.2.2.2.2
  refine gq_aldn hc dL_law_1237 rfl ?_
  refine gq_aload_n hc dL_law_1238 rfl ?_
  refine gq_iload hc dL_law_1239 rfl ?_
  refine gq_iconst hc dL_law_1241 ?_
  refine gq_iadd hc dL_law_1242 ?_
  refine gq_sld hc hX hbl hbA (by omega) (by omega) (by omega) dL_law_1243 ?_
  refine gq_callV (as := [gvI (lw_i xs (i + 1))]) hc (c_X12_telling w hr clb cg (fun _ _ => rfl) cg cin ctb lw_i32) my_X12_telling mv_X12_telling ca_0 rfl rfl lm_L_150 rfl rfl (by decide) (by decide) (Nat.le_of_ble_eq_true rfl) hu0 dL_law_1244 (fun r1 n1 A1 J1 R1 h1 => ?_)
  obtain ⟨rfl, rfl, e1, g1, hJ9, hR9⟩ := h1
  obtain rfl : J = J1 := hJ9
  obtain rfl : R = R1 := hR9
  have hk : k_hi A A1 := ⟨fun k hk => e1 k (by unfold g_sc; omega), g1⟩
  obtain ⟨hm, hu2, hbr, hi2, htp, ⟨hz3, hz7, hz6⟩, h705⟩ := q_inv_ref hq hk.1 hk.2
  refine gq_aldn hc dL_law_1247 rfl ?_
  refine gq_aload_n hc dL_law_1248 rfl ?_
  refine gq_iload hc dL_law_1249 rfl ?_
  refine gq_iconst hc dL_law_1251 ?_
  refine gq_iadd hc dL_law_1252 ?_
  refine gq_sld hc hX hbl hbA (by omega) (by omega) (by omega) dL_law_1253 ?_
  refine gq_callV (as := [gvI (lw_i xs (i + 1))]) hc (c_X13_telling w hr hm lw_i32) my_X13_telling mv_X13_telling ca_703 rfl rfl lm_L_153 rfl rfl (by decide) (by decide) (Nat.le_of_ble_eq_true rfl) hu0 dL_law_1254 (fun r2 n2 A2 J2 R2 h2 => ?_)
  obtain rfl := h2.1
  obtain rfl := h2.2.1
  refine gq_icmp_same (tgt := 1724) hc dL_law_1257 (by decide) ?_
  obtain ⟨-, -, e2, g2, -, t2, hr2⟩ := h2
  exact kk _ _ _ _ _ (by omega) (by omega) ⟨lb, t2, hr2, q_inv_ask hq e1 g1 e2 g2⟩
set_option maxHeartbeats 4000000 in
set_option maxRecDepth 100000 in
theorem L_31 (H : lw_ok w x b Ls xs) (hi : 0 ≤ i ∧ i + 6 ≤ (Ls : Int)) (hu : u + 1 ≤ x.2.2.2.2.2.2.2.2.2.1 ∧ v + 6 ≤ x.2.2.2.2.2.2.2.2.2.2) (hr : g_rf w R lb tx) (hq : q_inv A lb) (kk : lw_K w x P u v b i) : GQ w x P u v g_n A J R 1262 (lw_L w b i) [] := by
  obtain ⟨hc, hX, hbl, hbA, hLs, hgx, hst⟩ := H
  have hu0 : u + 0 ≤ x.2.2.2.2.2.2.2.2.2.1 ∧ v + 0 ≤ x.2.2.2.2.2.2.2.2.2.2 := ⟨by omega, by omega⟩
  obtain ⟨⟨clb, cg, cin, ctb⟩, cck, clv, cll, clt, cac, cbr, cim, c77, ctp, ckl, c43⟩ := q_inv_cls hq
  have clk := hq.2.2.2.2.2.2.1
  have c552 := hq.2.2.2.2.2.2.2.2.2
  refine gq_aldn hc dL_law_1262 rfl ?_
  refine gq_aload_n hc dL_law_1263 rfl ?_
  refine gq_iload hc dL_law_1264 rfl ?_
  refine gq_iconst hc dL_law_1266 ?_
  refine gq_iadd hc dL_law_1267 ?_
  refine gq_sld hc hX hbl hbA (by omega) (by omega) (by omega) dL_law_1268 ?_
  refine gq_callV (as := [gvI (lw_i xs (i + 1))]) hc (c_X12_twins w hr clb cg (fun _ _ => rfl) cg cin ctb lw_i32) my_X12_twins mv_X12_twins ca_0 rfl rfl lm_L_154 rfl rfl (by decide) (by decide) (Nat.le_of_ble_eq_true rfl) hu0 dL_law_1269 (fun r1 n1 A1 J1 R1 h1 => ?_)
  obtain ⟨rfl, rfl, e1, g1, hJ9, hR9⟩ := h1
  obtain rfl : J = J1 := hJ9
  obtain rfl : R = R1 := hR9
  have hk : k_hi A A1 := ⟨fun k hk => e1 k (by unfold g_sc; omega), g1⟩
  obtain ⟨hm, hu2, hbr, hi2, htp, ⟨hz3, hz7, hz6⟩, h705⟩ := q_inv_ref hq hk.1 hk.2
  refine gq_aldn hc dL_law_1272 rfl ?_
  refine gq_aload_n hc dL_law_1273 rfl ?_
  refine gq_iload hc dL_law_1274 rfl ?_
  refine gq_iconst hc dL_law_1276 ?_
  refine gq_iadd hc dL_law_1277 ?_
  refine gq_sld hc hX hbl hbA (by omega) (by omega) (by omega) dL_law_1278 ?_
  refine gq_callV (as := [gvI (lw_i xs (i + 1))]) hc (c_X13_twins w hr hm lw_i32) my_X13_twins mv_X13_twins ca_703 rfl rfl lm_L_157 rfl rfl (by decide) (by decide) (Nat.le_of_ble_eq_true rfl) hu0 dL_law_1279 (fun r2 n2 A2 J2 R2 h2 => ?_)
  obtain rfl := h2.1
  obtain rfl := h2.2.1
  refine gq_icmp_same (tgt := 1724) hc dL_law_1282 (by decide) ?_
  obtain ⟨-, -, e2, g2, -, t2, hr2⟩ := h2
  exact kk _ _ _ _ _ (by omega) (by omega) ⟨lb, t2, hr2, q_inv_ask hq e1 g1 e2 g2⟩
set_option maxHeartbeats 4000000 in
set_option maxRecDepth 100000 in
theorem L_32 (H : lw_ok w x b Ls xs) (hi : 0 ≤ i ∧ i + 6 ≤ (Ls : Int)) (hu : u + 1 ≤ x.2.2.2.2.2.2.2.2.2.1 ∧ v + 6 ≤ x.2.2.2.2.2.2.2.2.2.2) (hr : g_rf w R lb tx) (hq : q_inv A lb) (kk : lw_K w x P u v b i) : GQ w x P u v g_n A J R 1287 (lw_L w b i) [] := by
  obtain ⟨hc, hX, hbl, hbA, hLs, hgx, hst⟩ := H
  have hu0 : u + 0 ≤ x.2.2.2.2.2.2.2.2.2.1 ∧ v + 0 ≤ x.2.2.2.2.2.2.2.2.2.2 := ⟨by omega, by omega⟩
  obtain ⟨⟨clb, cg, cin, ctb⟩, cck, clv, cll, clt, cac, cbr, cim, c77, ctp, ckl, c43⟩ := q_inv_cls hq
  have clk := hq.2.2.2.2.2.2.1
  have c552 := hq.2.2.2.2.2.2.2.2.2
  refine gq_aldn hc dL_law_1287 rfl ?_
  refine gq_callV (as := []) hc (c_X12_sentence w hr clb cg (fun _ _ => rfl) cg cin ctb) my_X12_sentence mv_X12_sentence ca_0 rfl rfl lm_L_158 rfl rfl (by decide) (by decide) (Nat.le_of_ble_eq_true rfl) hu0 dL_law_1288 (fun r1 n1 A1 J1 R1 h1 => ?_)
  obtain ⟨rfl, rfl, e1, g1, hJ9, hR9⟩ := h1
  obtain rfl : J = J1 := hJ9
  obtain rfl : R = R1 := hR9
  have hk : k_hi A A1 := ⟨fun k hk => e1 k (by unfold g_sc; omega), g1⟩
  obtain ⟨hm, hu2, hbr, hi2, htp, ⟨hz3, hz7, hz6⟩, h705⟩ := q_inv_ref hq hk.1 hk.2
  refine gq_aldn hc dL_law_1291 rfl ?_
  refine gq_callV (as := []) hc (c_X13_sentence w hr hm) my_X13_sentence mv_X13_sentence ca_703 rfl rfl lm_L_161 rfl rfl (by decide) (by decide) (Nat.le_of_ble_eq_true rfl) hu0 dL_law_1292 (fun r2 n2 A2 J2 R2 h2 => ?_)
  obtain rfl := h2.1
  obtain rfl := h2.2.1
  refine gq_icmp_same (tgt := 1724) hc dL_law_1295 (by decide) ?_
  obtain ⟨-, -, e2, g2, -, t2, hr2⟩ := h2
  exact kk _ _ _ _ _ (by omega) (by omega) ⟨lb, t2, hr2, q_inv_ask hq e1 g1 e2 g2⟩
set_option maxHeartbeats 4000000 in
set_option maxRecDepth 100000 in
theorem L_33 (H : lw_ok w x b Ls xs) (hi : 0 ≤ i ∧ i + 6 ≤ (Ls : Int)) (hu : u + 1 ≤ x.2.2.2.2.2.2.2.2.2.1 ∧ v + 6 ≤ x.2.2.2.2.2.2.2.2.2.2) (hr : g_rf w R lb tx) (hq : q_inv A lb) (kk : lw_K w x P u v b i) : GQ w x P u v g_n A J R 1300 (lw_L w b i) [] := by
  obtain ⟨hc, hX, hbl, hbA, hLs, hgx, hst⟩ := H
  have hu0 : u + 0 ≤ x.2.2.2.2.2.2.2.2.2.1 ∧ v + 0 ≤ x.2.2.2.2.2.2.2.2.2.2 := ⟨by omega, by omega⟩
  obtain ⟨⟨clb, cg, cin, ctb⟩, cck, clv, cll, clt, cac, cbr, cim, c77, ctp, ckl, c43⟩ := q_inv_cls hq
  have clk := hq.2.2.2.2.2.2.1
  have c552 := hq.2.2.2.2.2.2.2.2.2
  refine gq_aldn hc dL_law_1300 rfl ?_
  refine gq_aload_n hc dL_law_1301 rfl ?_
  refine gq_iload hc dL_law_1302 rfl ?_
  refine gq_iconst hc dL_law_1304 ?_
  refine gq_iadd hc dL_law_1305 ?_
  refine gq_sld hc hX hbl hbA (by omega) (by omega) (by omega) dL_law_1306 ?_
  refine gq_aload_n hc dL_law_1307 rfl ?_
  refine gq_iload hc dL_law_1308 rfl ?_
  refine gq_iconst hc dL_law_1310 ?_
  refine gq_iadd hc dL_law_1311 ?_
  refine gq_sld hc hX hbl hbA (by omega) (by omega) (by omega) dL_law_1312 ?_
  refine gq_callV (as := [gvI (lw_i xs (i + 1)), gvI (lw_i xs (i + 2))]) hc (c_X12_leads w hr clb cg (fun _ _ => rfl) cg cin ctb lw_i32 lw_i32) my_X12_leads mv_X12_leads ca_0 rfl rfl lm_L_162 rfl rfl (by decide) (by decide) (Nat.le_of_ble_eq_true rfl) hu0 dL_law_1313 (fun r1 n1 A1 J1 R1 h1 => ?_)
  obtain ⟨rfl, rfl, e1, g1, hJ9, hR9⟩ := h1
  obtain rfl : J = J1 := hJ9
  obtain rfl : R = R1 := hR9
  have hk : k_hi A A1 := ⟨fun k hk => e1 k (by unfold g_sc; omega), g1⟩
  obtain ⟨hm, hu2, hbr, hi2, htp, ⟨hz3, hz7, hz6⟩, h705⟩ := q_inv_ref hq hk.1 hk.2
  refine gq_aldn hc dL_law_1316 rfl ?_
  refine gq_aload_n hc dL_law_1317 rfl ?_
  refine gq_iload hc dL_law_1318 rfl ?_
  refine gq_iconst hc dL_law_1320 ?_
  refine gq_iadd hc dL_law_1321 ?_
  refine gq_sld hc hX hbl hbA (by omega) (by omega) (by omega) dL_law_1322 ?_
  refine gq_aload_n hc dL_law_1323 rfl ?_
  refine gq_iload hc dL_law_1324 rfl ?_
  refine gq_iconst hc dL_law_1326 ?_
  refine gq_iadd hc dL_law_1327 ?_
  refine gq_sld hc hX hbl hbA (by omega) (by omega) (by omega) dL_law_1328 ?_
  refine gq_callV (as := [gvI (lw_i xs (i + 1)), gvI (lw_i xs (i + 2))]) hc (c_X13_leads w hr hm lw_i32 lw_i32) my_X13_leads mv_X13_leads ca_703 rfl rfl lm_L_165 rfl rfl (by decide) (by decide) (Nat.le_of_ble_eq_true rfl) hu0 dL_law_1329 (fun r2 n2 A2 J2 R2 h2 => ?_)
  obtain rfl := h2.1
  obtain rfl := h2.2.1
  refine gq_icmp_same (tgt := 1724) hc dL_law_1332 (by decide) ?_
  obtain ⟨-, -, e2, g2, -, t2, hr2⟩ := h2
  exact kk _ _ _ _ _ (by omega) (by omega) ⟨lb, t2, hr2, q_inv_ask hq e1 g1 e2 g2⟩
set_option maxHeartbeats 4000000 in
set_option maxRecDepth 100000 in
theorem L_34 (H : lw_ok w x b Ls xs) (hi : 0 ≤ i ∧ i + 6 ≤ (Ls : Int)) (hu : u + 1 ≤ x.2.2.2.2.2.2.2.2.2.1 ∧ v + 6 ≤ x.2.2.2.2.2.2.2.2.2.2) (hr : g_rf w R lb tx) (hq : q_inv A lb) (kk : lw_K w x P u v b i) : GQ w x P u v g_n A J R 1337 (lw_L w b i) [] := by
  obtain ⟨hc, hX, hbl, hbA, hLs, hgx, hst⟩ := H
  have hu0 : u + 0 ≤ x.2.2.2.2.2.2.2.2.2.1 ∧ v + 0 ≤ x.2.2.2.2.2.2.2.2.2.2 := ⟨by omega, by omega⟩
  obtain ⟨⟨clb, cg, cin, ctb⟩, cck, clv, cll, clt, cac, cbr, cim, c77, ctp, ckl, c43⟩ := q_inv_cls hq
  have clk := hq.2.2.2.2.2.2.1
  have c552 := hq.2.2.2.2.2.2.2.2.2
  refine gq_aldn hc dL_law_1337 rfl ?_
  refine gq_aload_n hc dL_law_1338 rfl ?_
  refine gq_iload hc dL_law_1339 rfl ?_
  refine gq_iconst hc dL_law_1341 ?_
  refine gq_iadd hc dL_law_1342 ?_
  refine gq_sld hc hX hbl hbA (by omega) (by omega) (by omega) dL_law_1343 ?_
  refine gq_aload_n hc dL_law_1344 rfl ?_
  refine gq_iload hc dL_law_1345 rfl ?_
  refine gq_iconst hc dL_law_1347 ?_
  refine gq_iadd hc dL_law_1348 ?_
  refine gq_sld hc hX hbl hbA (by omega) (by omega) (by omega) dL_law_1349 ?_
  refine gq_aload_n hc dL_law_1350 rfl ?_
  refine gq_iload hc dL_law_1351 rfl ?_
  refine gq_iconst hc dL_law_1353 ?_
  refine gq_iadd hc dL_law_1354 ?_
  refine gq_sld hc hX hbl hbA (by omega) (by omega) (by omega) dL_law_1355 ?_
  refine gq_callV (as := [gvI (lw_i xs (i + 1)), gvI (lw_i xs (i + 2)), gvI (lw_i xs (i + 3))]) hc (c_X12_clue w hr clb cg cin ctb lw_i32 lw_i32 lw_i32 ckl) my_X12_clue mv_X12_clue ca_0 rfl rfl lm_L_166 rfl rfl (by decide) (by decide) (Nat.le_of_ble_eq_true rfl) hu0 dL_law_1356 (fun r1 n1 A1 J1 R1 h1 => ?_)
  obtain ⟨rfl, rfl, hA1, rfl, rfl⟩ := h1
  have hk := k_hi_clue (c := (lw_i xs (i + 1))) (u := (lw_i xs (i + 2))) (v := (lw_i xs (i + 3))) hq lw_i32 lw_i32 lw_i32
  rw [← hA1] at hk
  have g1 := hk.2
  obtain ⟨hm, hu2, hbr, hi2, htp, ⟨hz3, hz7, hz6⟩, h705⟩ := q_inv_ref hq hk.1 hk.2
  refine gq_aldn hc dL_law_1359 rfl ?_
  refine gq_aload_n hc dL_law_1360 rfl ?_
  refine gq_iload hc dL_law_1361 rfl ?_
  refine gq_iconst hc dL_law_1363 ?_
  refine gq_iadd hc dL_law_1364 ?_
  refine gq_sld hc hX hbl hbA (by omega) (by omega) (by omega) dL_law_1365 ?_
  refine gq_aload_n hc dL_law_1366 rfl ?_
  refine gq_iload hc dL_law_1367 rfl ?_
  refine gq_iconst hc dL_law_1369 ?_
  refine gq_iadd hc dL_law_1370 ?_
  refine gq_sld hc hX hbl hbA (by omega) (by omega) (by omega) dL_law_1371 ?_
  refine gq_aload_n hc dL_law_1372 rfl ?_
  refine gq_iload hc dL_law_1373 rfl ?_
  refine gq_iconst hc dL_law_1375 ?_
  refine gq_iadd hc dL_law_1376 ?_
  refine gq_sld hc hX hbl hbA (by omega) (by omega) (by omega) dL_law_1377 ?_
  refine gq_callV (as := [gvI (lw_i xs (i + 1)), gvI (lw_i xs (i + 2)), gvI (lw_i xs (i + 3))]) hc (c_X13_clue w hr hm lw_i32 lw_i32 lw_i32) my_X13_clue mv_X13_clue ca_703 rfl rfl lm_L_169 rfl rfl (by decide) (by decide) (Nat.le_of_ble_eq_true rfl) hu0 dL_law_1378 (fun r2 n2 A2 J2 R2 h2 => ?_)
  obtain rfl := h2.1.1
  obtain rfl := h2.1.2.1
  refine gq_icmp_same (tgt := 1724) hc dL_law_1381 (by decide) ?_
  subst hA1
  exact kk _ _ _ _ _ (by omega) (by omega) (k_clue hq lw_i32 lw_i32 lw_i32 h2)
set_option maxHeartbeats 4000000 in
set_option maxRecDepth 100000 in
theorem L_35 (H : lw_ok w x b Ls xs) (hi : 0 ≤ i ∧ i + 6 ≤ (Ls : Int)) (hu : u + 1 ≤ x.2.2.2.2.2.2.2.2.2.1 ∧ v + 6 ≤ x.2.2.2.2.2.2.2.2.2.2) (hr : g_rf w R lb tx) (hq : q_inv A lb) (kk : lw_K w x P u v b i) : GQ w x P u v g_n A J R 1386 (lw_L w b i) [] := by
  obtain ⟨hc, hX, hbl, hbA, hLs, hgx, hst⟩ := H
  have hu0 : u + 0 ≤ x.2.2.2.2.2.2.2.2.2.1 ∧ v + 0 ≤ x.2.2.2.2.2.2.2.2.2.2 := ⟨by omega, by omega⟩
  obtain ⟨⟨clb, cg, cin, ctb⟩, cck, clv, cll, clt, cac, cbr, cim, c77, ctp, ckl, c43⟩ := q_inv_cls hq
  have clk := hq.2.2.2.2.2.2.1
  have c552 := hq.2.2.2.2.2.2.2.2.2
  refine gq_aldn hc dL_law_1386 rfl ?_
  refine gq_aload_n hc dL_law_1387 rfl ?_
  refine gq_iload hc dL_law_1388 rfl ?_
  refine gq_iconst hc dL_law_1390 ?_
  refine gq_iadd hc dL_law_1391 ?_
  refine gq_sld hc hX hbl hbA (by omega) (by omega) (by omega) dL_law_1392 ?_
  refine gq_callV (as := [gvI (lw_i xs (i + 1))]) hc (c_X12_can w hr clb cg (fun _ _ => rfl) cg cin ctb lw_i32 cck) my_X12_can mv_X12_can ca_0 rfl rfl lm_L_170 rfl rfl (by decide) (by decide) (Nat.le_of_ble_eq_true rfl) hu0 dL_law_1393 (fun r1 n1 A1 J1 R1 h1 => ?_)
  obtain ⟨rfl, rfl, e1, g1, hJ9, hR9⟩ := h1
  obtain rfl : J = J1 := hJ9
  obtain rfl : R = R1 := hR9
  have hk : k_hi A A1 := ⟨fun k hk => e1 k (by unfold g_sc; omega), g1⟩
  obtain ⟨hm, hu2, hbr, hi2, htp, ⟨hz3, hz7, hz6⟩, h705⟩ := q_inv_ref hq hk.1 hk.2
  refine gq_aldn hc dL_law_1396 rfl ?_
  refine gq_aload_n hc dL_law_1397 rfl ?_
  refine gq_iload hc dL_law_1398 rfl ?_
  refine gq_iconst hc dL_law_1400 ?_
  refine gq_iadd hc dL_law_1401 ?_
  refine gq_sld hc hX hbl hbA (by omega) (by omega) (by omega) dL_law_1402 ?_
  refine gq_callV (as := [gvI (lw_i xs (i + 1))]) hc (c_X13_can w hr hm lw_i32 hz3) my_X13_can mv_X13_can ca_703 rfl rfl lm_L_173 rfl rfl (by decide) (by decide) (Nat.le_of_ble_eq_true rfl) hu0 dL_law_1403 (fun r2 n2 A2 J2 R2 h2 => ?_)
  obtain rfl := h2.1.1
  obtain rfl := h2.1.2.1
  refine gq_icmp_same (tgt := 1724) hc dL_law_1406 (by decide) ?_
  obtain ⟨⟨-, -, e2, g2, -, t2, hr2⟩, -⟩ := h2
  exact kk _ _ _ _ _ (by omega) (by omega) ⟨lb, t2, hr2, q_inv_ask hq e1 g1 e2 g2⟩
set_option maxHeartbeats 4000000 in
set_option maxRecDepth 100000 in
theorem L_36 (H : lw_ok w x b Ls xs) (hi : 0 ≤ i ∧ i + 6 ≤ (Ls : Int)) (hu : u + 1 ≤ x.2.2.2.2.2.2.2.2.2.1 ∧ v + 6 ≤ x.2.2.2.2.2.2.2.2.2.2) (hr : g_rf w R lb tx) (hq : q_inv A lb) (kk : lw_K w x P u v b i) : GQ w x P u v g_n A J R 1411 (lw_L w b i) [] := by
  obtain ⟨hc, hX, hbl, hbA, hLs, hgx, hst⟩ := H
  have hu0 : u + 0 ≤ x.2.2.2.2.2.2.2.2.2.1 ∧ v + 0 ≤ x.2.2.2.2.2.2.2.2.2.2 := ⟨by omega, by omega⟩
  obtain ⟨⟨clb, cg, cin, ctb⟩, cck, clv, cll, clt, cac, cbr, cim, c77, ctp, ckl, c43⟩ := q_inv_cls hq
  have clk := hq.2.2.2.2.2.2.1
  have c552 := hq.2.2.2.2.2.2.2.2.2
  refine gq_aldn hc dL_law_1411 rfl ?_
  refine gq_aload_n hc dL_law_1412 rfl ?_
  refine gq_iload hc dL_law_1413 rfl ?_
  refine gq_iconst hc dL_law_1415 ?_
  refine gq_iadd hc dL_law_1416 ?_
  refine gq_sld hc hX hbl hbA (by omega) (by omega) (by omega) dL_law_1417 ?_
  refine gq_aload_n hc dL_law_1418 rfl ?_
  refine gq_iload hc dL_law_1419 rfl ?_
  refine gq_iconst hc dL_law_1421 ?_
  refine gq_iadd hc dL_law_1422 ?_
  refine gq_sld hc hX hbl hbA (by omega) (by omega) (by omega) dL_law_1423 ?_
  refine gq_callV (as := [gvI (lw_i xs (i + 1)), gvI (lw_i xs (i + 2))]) hc (c_X12_cross w hr clb cg cin ctb lw_i32 lw_i32 clv cll) my_X12_cross mv_X12_cross ca_0 rfl rfl lm_L_174 rfl rfl (by decide) (by decide) (Nat.le_of_ble_eq_true rfl) hu0 dL_law_1424 (fun r1 n1 A1 J1 R1 h1 => ?_)
  obtain ⟨rfl, rfl, hA9, hJ9, hR9⟩ := h1
  obtain rfl : A = A1 := hA9.symm
  obtain rfl : J = J1 := hJ9.symm
  obtain rfl : R = R1 := hR9.symm
  have g1 := cg
  have e1 : ∀ k : Nat, ¬ g_sc k → A k = A k := fun _ _ => rfl
  have hk := k_hi_rf hq
  obtain ⟨hm, hu2, hbr, hi2, htp, ⟨hz3, hz7, hz6⟩, h705⟩ := q_inv_ref hq hk.1 hk.2
  refine gq_aldn hc dL_law_1427 rfl ?_
  refine gq_aload_n hc dL_law_1428 rfl ?_
  refine gq_iload hc dL_law_1429 rfl ?_
  refine gq_iconst hc dL_law_1431 ?_
  refine gq_iadd hc dL_law_1432 ?_
  refine gq_sld hc hX hbl hbA (by omega) (by omega) (by omega) dL_law_1433 ?_
  refine gq_aload_n hc dL_law_1434 rfl ?_
  refine gq_iload hc dL_law_1435 rfl ?_
  refine gq_iconst hc dL_law_1437 ?_
  refine gq_iadd hc dL_law_1438 ?_
  refine gq_sld hc hX hbl hbA (by omega) (by omega) (by omega) dL_law_1439 ?_
  refine gq_callV (as := [gvI (lw_i xs (i + 1)), gvI (lw_i xs (i + 2))]) hc (c_X13_cross w hr hm lw_i32 lw_i32) my_X13_cross mv_X13_cross ca_703 rfl rfl lm_L_177 rfl rfl (by decide) (by decide) (Nat.le_of_ble_eq_true rfl) hu0 dL_law_1440 (fun r2 n2 A2 J2 R2 h2 => ?_)
  obtain rfl := h2.1
  obtain rfl := h2.2.1
  refine gq_icmp_same (tgt := 1724) hc dL_law_1443 (by decide) ?_
  obtain ⟨-, -, e2, g2, -, t2, hr2⟩ := h2
  exact kk _ _ _ _ _ (by omega) (by omega) ⟨lb, t2, hr2, q_inv_ask hq e1 g1 e2 g2⟩
set_option maxHeartbeats 4000000 in
set_option maxRecDepth 100000 in
theorem L_37 (H : lw_ok w x b Ls xs) (hi : 0 ≤ i ∧ i + 6 ≤ (Ls : Int)) (hu : u + 1 ≤ x.2.2.2.2.2.2.2.2.2.1 ∧ v + 6 ≤ x.2.2.2.2.2.2.2.2.2.2) (hr : g_rf w R lb tx) (hq : q_inv A lb) (kk : lw_K w x P u v b i) : GQ w x P u v g_n A J R 1448 (lw_L w b i) [] := by
  obtain ⟨hc, hX, hbl, hbA, hLs, hgx, hst⟩ := H
  have hu0 : u + 0 ≤ x.2.2.2.2.2.2.2.2.2.1 ∧ v + 0 ≤ x.2.2.2.2.2.2.2.2.2.2 := ⟨by omega, by omega⟩
  obtain ⟨⟨clb, cg, cin, ctb⟩, cck, clv, cll, clt, cac, cbr, cim, c77, ctp, ckl, c43⟩ := q_inv_cls hq
  have clk := hq.2.2.2.2.2.2.1
  have c552 := hq.2.2.2.2.2.2.2.2.2
  refine gq_aldn hc dL_law_1448 rfl ?_
  refine gq_aload_n hc dL_law_1449 rfl ?_
  refine gq_iload hc dL_law_1450 rfl ?_
  refine gq_iconst hc dL_law_1452 ?_
  refine gq_iadd hc dL_law_1453 ?_
  refine gq_sld hc hX hbl hbA (by omega) (by omega) (by omega) dL_law_1454 ?_
  refine gq_aload_n hc dL_law_1455 rfl ?_
  refine gq_iload hc dL_law_1456 rfl ?_
  refine gq_iconst hc dL_law_1458 ?_
  refine gq_iadd hc dL_law_1459 ?_
  refine gq_sld hc hX hbl hbA (by omega) (by omega) (by omega) dL_law_1460 ?_
  refine gq_aload_n hc dL_law_1461 rfl ?_
  refine gq_iload hc dL_law_1462 rfl ?_
  refine gq_iconst hc dL_law_1464 ?_
  refine gq_iadd hc dL_law_1465 ?_
  refine gq_sld hc hX hbl hbA (by omega) (by omega) (by omega) dL_law_1466 ?_
  refine gq_callV (as := [gvI (lw_i xs (i + 1)), gvI (lw_i xs (i + 2)), gvI (lw_i xs (i + 3))]) hc (c_X12_meetings w hr clb cg cin ctb lw_i32 lw_i32 lw_i32 clv cll) my_X12_meetings mv_X12_meetings ca_0 rfl rfl lm_L_178 rfl rfl (by decide) (by decide) (Nat.le_of_ble_eq_true rfl) hu0 dL_law_1467 (fun r1 n1 A1 J1 R1 h1 => ?_)
  obtain ⟨rfl, rfl, hA9, hJ9, hR9⟩ := h1
  obtain rfl : A = A1 := hA9.symm
  obtain rfl : J = J1 := hJ9.symm
  obtain rfl : R = R1 := hR9.symm
  have g1 := cg
  have e1 : ∀ k : Nat, ¬ g_sc k → A k = A k := fun _ _ => rfl
  have hk := k_hi_rf hq
  obtain ⟨hm, hu2, hbr, hi2, htp, ⟨hz3, hz7, hz6⟩, h705⟩ := q_inv_ref hq hk.1 hk.2
  refine gq_aldn hc dL_law_1470 rfl ?_
  refine gq_aload_n hc dL_law_1471 rfl ?_
  refine gq_iload hc dL_law_1472 rfl ?_
  refine gq_iconst hc dL_law_1474 ?_
  refine gq_iadd hc dL_law_1475 ?_
  refine gq_sld hc hX hbl hbA (by omega) (by omega) (by omega) dL_law_1476 ?_
  refine gq_aload_n hc dL_law_1477 rfl ?_
  refine gq_iload hc dL_law_1478 rfl ?_
  refine gq_iconst hc dL_law_1480 ?_
  refine gq_iadd hc dL_law_1481 ?_
  refine gq_sld hc hX hbl hbA (by omega) (by omega) (by omega) dL_law_1482 ?_
  refine gq_aload_n hc dL_law_1483 rfl ?_
  refine gq_iload hc dL_law_1484 rfl ?_
  refine gq_iconst hc dL_law_1486 ?_
  refine gq_iadd hc dL_law_1487 ?_
  refine gq_sld hc hX hbl hbA (by omega) (by omega) (by omega) dL_law_1488 ?_
  refine gq_callV (as := [gvI (lw_i xs (i + 1)), gvI (lw_i xs (i + 2)), gvI (lw_i xs (i + 3))]) hc (c_X13_meetings w hr hm lw_i32 lw_i32 lw_i32) my_X13_meetings mv_X13_meetings ca_703 rfl rfl lm_L_181 rfl rfl (by decide) (by decide) (Nat.le_of_ble_eq_true rfl) hu0 dL_law_1489 (fun r2 n2 A2 J2 R2 h2 => ?_)
  obtain rfl := h2.1
  obtain rfl := h2.2.1
  refine gq_icmp_same (tgt := 1724) hc dL_law_1492 (by decide) ?_
  obtain ⟨-, -, e2, g2, -, t2, hr2⟩ := h2
  exact kk _ _ _ _ _ (by omega) (by omega) ⟨lb, t2, hr2, q_inv_ask hq e1 g1 e2 g2⟩
set_option maxHeartbeats 4000000 in
set_option maxRecDepth 100000 in
theorem L_38 (H : lw_ok w x b Ls xs) (hi : 0 ≤ i ∧ i + 6 ≤ (Ls : Int)) (hu : u + 1 ≤ x.2.2.2.2.2.2.2.2.2.1 ∧ v + 6 ≤ x.2.2.2.2.2.2.2.2.2.2) (hr : g_rf w R lb tx) (hq : q_inv A lb) (kk : lw_K w x P u v b i) : GQ w x P u v g_n A J R 1497 (lw_L w b i) [] := by
  obtain ⟨hc, hX, hbl, hbA, hLs, hgx, hst⟩ := H
  have hu0 : u + 0 ≤ x.2.2.2.2.2.2.2.2.2.1 ∧ v + 0 ≤ x.2.2.2.2.2.2.2.2.2.2 := ⟨by omega, by omega⟩
  obtain ⟨⟨clb, cg, cin, ctb⟩, cck, clv, cll, clt, cac, cbr, cim, c77, ctp, ckl, c43⟩ := q_inv_cls hq
  have clk := hq.2.2.2.2.2.2.1
  have c552 := hq.2.2.2.2.2.2.2.2.2
  refine gq_aldn hc dL_law_1497 rfl ?_
  refine gq_aload_n hc dL_law_1498 rfl ?_
  refine gq_iload hc dL_law_1499 rfl ?_
  refine gq_iconst hc dL_law_1501 ?_
  refine gq_iadd hc dL_law_1502 ?_
  refine gq_sld hc hX hbl hbA (by omega) (by omega) (by omega) dL_law_1503 ?_
  refine gq_i2l hc dL_law_1504 lw_i32 ?_
  refine gq_bipush hc dL_law_1505 (by decide +kernel) ?_
  refine gq_lshl' hc dL_law_1507 ?_
  refine gq_aload_n hc dL_law_1508 rfl ?_
  refine gq_iload hc dL_law_1509 rfl ?_
  refine gq_iconst hc dL_law_1511 ?_
  refine gq_iadd hc dL_law_1512 ?_
  refine gq_sld hc hX hbl hbA (by omega) (by omega) (by omega) dL_law_1513 ?_
  refine gq_i2l hc dL_law_1514 lw_i32 ?_
  refine gq_ldc2 (k := 4294967295) hc dL_law_1515 _ lc_L_182 (by decide +kernel) ?_
  refine gq_land' hc dL_law_1518 ?_
  refine gq_lor' hc dL_law_1519 ?_
  refine gq_callV (as := [gvL (g_lor (g_lshl (lw_i xs (i + 1)) 32) (g_land (lw_i xs (i + 2)) 4294967295))]) hc (c_X12_birthday w hr clb cg cin ctb cbr) my_X12_birthday mv_X12_birthday ca_0 rfl rfl lm_L_184 rfl rfl (by decide) (by decide) (Nat.le_of_ble_eq_true rfl) hu0 dL_law_1520 (fun r1 n1 A1 J1 R1 h1 => ?_)
  obtain ⟨⟨rfl, rfl, e1, g1, -, hR9⟩, hJJ⟩ := h1
  obtain rfl : R = R1 := hR9
  have hk : k_hi A A1 := ⟨fun k hk => (e1 k (by unfold g_sc; omega)).trans (k_ptif k (by omega) (by omega)), g1⟩
  obtain ⟨hm, hu2, hbr, hi2, htp, ⟨hz3, hz7, hz6⟩, h705⟩ := q_inv_ref hq hk.1 hk.2
  refine gq_aldn hc dL_law_1523 rfl ?_
  refine gq_aload_n hc dL_law_1524 rfl ?_
  refine gq_iload hc dL_law_1525 rfl ?_
  refine gq_iconst hc dL_law_1527 ?_
  refine gq_iadd hc dL_law_1528 ?_
  refine gq_sld hc hX hbl hbA (by omega) (by omega) (by omega) dL_law_1529 ?_
  refine gq_i2l hc dL_law_1530 lw_i32 ?_
  refine gq_bipush hc dL_law_1531 (by decide +kernel) ?_
  refine gq_lshl' hc dL_law_1533 ?_
  refine gq_aload_n hc dL_law_1534 rfl ?_
  refine gq_iload hc dL_law_1535 rfl ?_
  refine gq_iconst hc dL_law_1537 ?_
  refine gq_iadd hc dL_law_1538 ?_
  refine gq_sld hc hX hbl hbA (by omega) (by omega) (by omega) dL_law_1539 ?_
  refine gq_i2l hc dL_law_1540 lw_i32 ?_
  refine gq_ldc2 (k := 4294967295) hc dL_law_1541 _ lc_L_182 (by decide +kernel) ?_
  refine gq_land' hc dL_law_1544 ?_
  refine gq_lor' hc dL_law_1545 ?_
  refine gq_callV (as := [gvL (g_lor (g_lshl (lw_i xs (i + 1)) 32) (g_land (lw_i xs (i + 2)) 4294967295))]) hc (c_X13_birthday w hr hm hbr) my_X13_birthday mv_X13_birthday ca_703 rfl rfl lm_L_188 rfl rfl (by decide) (by decide) (Nat.le_of_ble_eq_true rfl) hu0 dL_law_1546 (fun r2 n2 A2 J2 R2 h2 => ?_)
  obtain rfl := h2.1.1
  obtain rfl := h2.1.2.1
  refine gq_icmp_same (tgt := 1724) hc dL_law_1549 (by decide) ?_
  exact kk _ _ _ _ _ (by omega) (by omega) (k_birth (J1 := J1) (J3 := J1) hq e1 g1 h2)
set_option maxHeartbeats 4000000 in
set_option maxRecDepth 100000 in
theorem L_39 (H : lw_ok w x b Ls xs) (hi : 0 ≤ i ∧ i + 6 ≤ (Ls : Int)) (hu : u + 1 ≤ x.2.2.2.2.2.2.2.2.2.1 ∧ v + 6 ≤ x.2.2.2.2.2.2.2.2.2.2) (hr : g_rf w R lb tx) (hq : q_inv A lb) (kk : lw_K w x P u v b i) : GQ w x P u v g_n A J R 1554 (lw_L w b i) [] := by
  obtain ⟨hc, hX, hbl, hbA, hLs, hgx, hst⟩ := H
  have hu0 : u + 0 ≤ x.2.2.2.2.2.2.2.2.2.1 ∧ v + 0 ≤ x.2.2.2.2.2.2.2.2.2.2 := ⟨by omega, by omega⟩
  obtain ⟨⟨clb, cg, cin, ctb⟩, cck, clv, cll, clt, cac, cbr, cim, c77, ctp, ckl, c43⟩ := q_inv_cls hq
  have clk := hq.2.2.2.2.2.2.1
  have c552 := hq.2.2.2.2.2.2.2.2.2
  refine gq_aldn hc dL_law_1554 rfl ?_
  refine gq_aload_n hc dL_law_1555 rfl ?_
  refine gq_iload hc dL_law_1556 rfl ?_
  refine gq_iconst hc dL_law_1558 ?_
  refine gq_iadd hc dL_law_1559 ?_
  refine gq_sld hc hX hbl hbA (by omega) (by omega) (by omega) dL_law_1560 ?_
  refine gq_callV (as := [gvI (lw_i xs (i + 1))]) hc (c_X12_born w hr clb cg (fun _ _ => rfl) cg cin ctb lw_i32 cbr) my_X12_born mv_X12_born ca_0 rfl rfl lm_L_189 rfl rfl (by decide) (by decide) (Nat.le_of_ble_eq_true rfl) hu0 dL_law_1561 (fun r1 n1 A1 J1 R1 h1 => ?_)
  obtain ⟨rfl, rfl, e1, g1, hJ9, hR9⟩ := h1
  obtain rfl : J = J1 := hJ9
  obtain rfl : R = R1 := hR9
  have hk : k_hi A A1 := ⟨fun k hk => e1 k (by unfold g_sc; omega), g1⟩
  obtain ⟨hm, hu2, hbr, hi2, htp, ⟨hz3, hz7, hz6⟩, h705⟩ := q_inv_ref hq hk.1 hk.2
  refine gq_aldn hc dL_law_1564 rfl ?_
  refine gq_aload_n hc dL_law_1565 rfl ?_
  refine gq_iload hc dL_law_1566 rfl ?_
  refine gq_iconst hc dL_law_1568 ?_
  refine gq_iadd hc dL_law_1569 ?_
  refine gq_sld hc hX hbl hbA (by omega) (by omega) (by omega) dL_law_1570 ?_
  refine gq_callV (as := [gvI (lw_i xs (i + 1))]) hc (c_X13_born w hr hm lw_i32 hbr) my_X13_born mv_X13_born ca_703 rfl rfl lm_L_192 rfl rfl (by decide) (by decide) (Nat.le_of_ble_eq_true rfl) hu0 dL_law_1571 (fun r2 n2 A2 J2 R2 h2 => ?_)
  obtain rfl := h2.1
  obtain rfl := h2.2.1
  refine gq_icmp_same (tgt := 1724) hc dL_law_1574 (by decide) ?_
  obtain ⟨-, -, e2, g2, -, t2, hr2⟩ := h2
  exact kk _ _ _ _ _ (by omega) (by omega) ⟨lb, t2, hr2, q_inv_ask hq e1 g1 e2 g2⟩
set_option maxHeartbeats 4000000 in
set_option maxRecDepth 100000 in
theorem L_40 (H : lw_ok w x b Ls xs) (hi : 0 ≤ i ∧ i + 6 ≤ (Ls : Int)) (hu : u + 1 ≤ x.2.2.2.2.2.2.2.2.2.1 ∧ v + 6 ≤ x.2.2.2.2.2.2.2.2.2.2) (hr : g_rf w R lb tx) (hq : q_inv A lb) (kk : lw_K w x P u v b i) : GQ w x P u v g_n A J R 1579 (lw_L w b i) [] := by
  obtain ⟨hc, hX, hbl, hbA, hLs, hgx, hst⟩ := H
  have hu0 : u + 0 ≤ x.2.2.2.2.2.2.2.2.2.1 ∧ v + 0 ≤ x.2.2.2.2.2.2.2.2.2.2 := ⟨by omega, by omega⟩
  obtain ⟨⟨clb, cg, cin, ctb⟩, cck, clv, cll, clt, cac, cbr, cim, c77, ctp, ckl, c43⟩ := q_inv_cls hq
  have clk := hq.2.2.2.2.2.2.1
  have c552 := hq.2.2.2.2.2.2.2.2.2
  refine gq_aldn hc dL_law_1579 rfl ?_
  refine gq_callV (as := []) hc (c_X12_take w hr clb cg cin ctb cbr) my_X12_take mv_X12_take ca_0 rfl rfl lm_L_193 rfl rfl (by decide) (by decide) (Nat.le_of_ble_eq_true rfl) hu0 dL_law_1580 (fun r1 n1 A1 J1 R1 h1 => ?_)
  obtain ⟨rfl, rfl, hA1, rfl, rfl⟩ := h1
  have hk := k_hi_take hq
  rw [← hA1] at hk
  have g1 := hk.2
  obtain ⟨hm, hu2, hbr, hi2, htp, ⟨hz3, hz7, hz6⟩, h705⟩ := q_inv_ref hq hk.1 hk.2
  refine gq_aldn hc dL_law_1583 rfl ?_
  refine gq_callV (as := []) hc (c_X13_take w hr hm hbr) my_X13_take mv_X13_take ca_703 rfl rfl lm_L_196 rfl rfl (by decide) (by decide) (Nat.le_of_ble_eq_true rfl) hu0 dL_law_1584 (fun r2 n2 A2 J2 R2 h2 => ?_)
  obtain rfl := h2.1.1
  obtain rfl := h2.1.2.1
  refine gq_icmp_same (tgt := 1724) hc dL_law_1587 (by decide) ?_
  subst hA1
  exact kk _ _ _ _ _ (by omega) (by omega) (k_take hq h2)
set_option maxHeartbeats 4000000 in
set_option maxRecDepth 100000 in
theorem L_41 (H : lw_ok w x b Ls xs) (hi : 0 ≤ i ∧ i + 6 ≤ (Ls : Int)) (hu : u + 1 ≤ x.2.2.2.2.2.2.2.2.2.1 ∧ v + 6 ≤ x.2.2.2.2.2.2.2.2.2.2) (hr : g_rf w R lb tx) (hq : q_inv A lb) (kk : lw_K w x P u v b i) : GQ w x P u v g_n A J R 1592 (lw_L w b i) [] := by
  obtain ⟨hc, hX, hbl, hbA, hLs, hgx, hst⟩ := H
  have hu0 : u + 0 ≤ x.2.2.2.2.2.2.2.2.2.1 ∧ v + 0 ≤ x.2.2.2.2.2.2.2.2.2.2 := ⟨by omega, by omega⟩
  obtain ⟨⟨clb, cg, cin, ctb⟩, cck, clv, cll, clt, cac, cbr, cim, c77, ctp, ckl, c43⟩ := q_inv_cls hq
  have clk := hq.2.2.2.2.2.2.1
  have c552 := hq.2.2.2.2.2.2.2.2.2
  refine gq_aldn hc dL_law_1592 rfl ?_
  refine gq_aload_n hc dL_law_1593 rfl ?_
  refine gq_iload hc dL_law_1594 rfl ?_
  refine gq_iconst hc dL_law_1596 ?_
  refine gq_iadd hc dL_law_1597 ?_
  refine gq_sld hc hX hbl hbA (by omega) (by omega) (by omega) dL_law_1598 ?_
  refine gq_aload_n hc dL_law_1599 rfl ?_
  refine gq_iload hc dL_law_1600 rfl ?_
  refine gq_iconst hc dL_law_1602 ?_
  refine gq_iadd hc dL_law_1603 ?_
  refine gq_sld hc hX hbl hbA (by omega) (by omega) (by omega) dL_law_1604 ?_
  refine gq_i2l hc dL_law_1605 lw_i32 ?_
  refine gq_bipush hc dL_law_1606 (by decide +kernel) ?_
  refine gq_lshl' hc dL_law_1608 ?_
  refine gq_aload_n hc dL_law_1609 rfl ?_
  refine gq_iload hc dL_law_1610 rfl ?_
  refine gq_iconst hc dL_law_1612 ?_
  refine gq_iadd hc dL_law_1613 ?_
  refine gq_sld hc hX hbl hbA (by omega) (by omega) (by omega) dL_law_1614 ?_
  refine gq_i2l hc dL_law_1615 lw_i32 ?_
  refine gq_ldc2 (k := 4294967295) hc dL_law_1616 _ lc_L_182 (by decide +kernel) ?_
  refine gq_land' hc dL_law_1619 ?_
  refine gq_lor' hc dL_law_1620 ?_
  refine gq_aload_n hc dL_law_1621 rfl ?_
  refine gq_iload hc dL_law_1622 rfl ?_
  refine gq_iconst hc dL_law_1624 ?_
  refine gq_iadd hc dL_law_1625 ?_
  refine gq_sld hc hX hbl hbA (by omega) (by omega) (by omega) dL_law_1626 ?_
  refine gq_callV (as := [gvI (lw_i xs (i + 1)), gvL (g_lor (g_lshl (lw_i xs (i + 2)) 32) (g_land (lw_i xs (i + 3)) 4294967295)), gvI (lw_i xs (i + 4))]) hc (c_X12_town w hr clb cg (fun _ _ => rfl) cg cin ctb lw_i32 lw_i32) my_X12_town mv_X12_town ca_0 rfl rfl lm_L_197 rfl rfl (by decide) (by decide) (Nat.le_of_ble_eq_true rfl) hu0 dL_law_1627 (fun r1 n1 A1 J1 R1 h1 => ?_)
  obtain ⟨⟨rfl, rfl, e1, g1, -, hR9⟩, hJJ⟩ := h1
  obtain rfl : R = R1 := hR9
  have hk : k_hi A A1 := ⟨fun k hk => e1 k (by unfold g_sc; omega), g1⟩
  obtain ⟨hm, hu2, hbr, hi2, htp, ⟨hz3, hz7, hz6⟩, h705⟩ := q_inv_ref hq hk.1 hk.2
  refine gq_aldn hc dL_law_1630 rfl ?_
  refine gq_aload_n hc dL_law_1631 rfl ?_
  refine gq_iload hc dL_law_1632 rfl ?_
  refine gq_iconst hc dL_law_1634 ?_
  refine gq_iadd hc dL_law_1635 ?_
  refine gq_sld hc hX hbl hbA (by omega) (by omega) (by omega) dL_law_1636 ?_
  refine gq_aload_n hc dL_law_1637 rfl ?_
  refine gq_iload hc dL_law_1638 rfl ?_
  refine gq_iconst hc dL_law_1640 ?_
  refine gq_iadd hc dL_law_1641 ?_
  refine gq_sld hc hX hbl hbA (by omega) (by omega) (by omega) dL_law_1642 ?_
  refine gq_i2l hc dL_law_1643 lw_i32 ?_
  refine gq_bipush hc dL_law_1644 (by decide +kernel) ?_
  refine gq_lshl' hc dL_law_1646 ?_
  refine gq_aload_n hc dL_law_1647 rfl ?_
  refine gq_iload hc dL_law_1648 rfl ?_
  refine gq_iconst hc dL_law_1650 ?_
  refine gq_iadd hc dL_law_1651 ?_
  refine gq_sld hc hX hbl hbA (by omega) (by omega) (by omega) dL_law_1652 ?_
  refine gq_i2l hc dL_law_1653 lw_i32 ?_
  refine gq_ldc2 (k := 4294967295) hc dL_law_1654 _ lc_L_182 (by decide +kernel) ?_
  refine gq_land' hc dL_law_1657 ?_
  refine gq_lor' hc dL_law_1658 ?_
  refine gq_aload_n hc dL_law_1659 rfl ?_
  refine gq_iload hc dL_law_1660 rfl ?_
  refine gq_iconst hc dL_law_1662 ?_
  refine gq_iadd hc dL_law_1663 ?_
  refine gq_sld hc hX hbl hbA (by omega) (by omega) (by omega) dL_law_1664 ?_
  refine gq_callV (as := [gvI (lw_i xs (i + 1)), gvL (g_lor (g_lshl (lw_i xs (i + 2)) 32) (g_land (lw_i xs (i + 3)) 4294967295)), gvI (lw_i xs (i + 4))]) hc (c_X13_town w hr hm lw_i32 lw_i32) my_X13_town mv_X13_town ca_703 rfl rfl lm_L_201 rfl rfl (by decide) (by decide) (Nat.le_of_ble_eq_true rfl) hu0 dL_law_1665 (fun r2 n2 A2 J2 R2 h2 => ?_)
  obtain rfl := h2.1.1
  obtain rfl := h2.1.2.1
  refine gq_icmp_same (tgt := 1724) hc dL_law_1668 (by decide) ?_
  obtain ⟨⟨-, -, e2, g2, -, t2, hr2⟩, -⟩ := h2
  exact kk _ _ _ _ _ (by omega) (by omega) ⟨lb, t2, hr2, q_inv_ask hq e1 g1 e2 g2⟩
set_option maxHeartbeats 4000000 in
set_option maxRecDepth 100000 in
theorem L_42 (H : lw_ok w x b Ls xs) (hi : 0 ≤ i ∧ i + 6 ≤ (Ls : Int)) (hu : u + 1 ≤ x.2.2.2.2.2.2.2.2.2.1 ∧ v + 6 ≤ x.2.2.2.2.2.2.2.2.2.2) (hr : g_rf w R lb tx) (hq : q_inv A lb) (kk : lw_K w x P u v b i) : GQ w x P u v g_n A J R 1673 (lw_L w b i) [] := by
  obtain ⟨hc, hX, hbl, hbA, hLs, hgx, hst⟩ := H
  have hu0 : u + 0 ≤ x.2.2.2.2.2.2.2.2.2.1 ∧ v + 0 ≤ x.2.2.2.2.2.2.2.2.2.2 := ⟨by omega, by omega⟩
  obtain ⟨⟨clb, cg, cin, ctb⟩, cck, clv, cll, clt, cac, cbr, cim, c77, ctp, ckl, c43⟩ := q_inv_cls hq
  have clk := hq.2.2.2.2.2.2.1
  have c552 := hq.2.2.2.2.2.2.2.2.2
  refine gq_aldn hc dL_law_1673 rfl ?_
  refine gq_callV (as := []) hc (c_X12_image w hr clb cg cin ctb) my_X12_image mv_X12_image ca_0 rfl rfl lm_L_202 rfl rfl (by decide) (by decide) (Nat.le_of_ble_eq_true rfl) hu0 dL_law_1674 (fun r1 n1 A1 J1 R1 h1 => ?_)
  obtain ⟨rfl, rfl, hA1, rfl, rfl⟩ := h1
  have hk := k_kmif hq
  rw [← hA1] at hk
  have g1 := hk.2
  obtain ⟨hm, hu2, hbr, hi2, htp, ⟨hz3, hz7, hz6⟩, h705⟩ := q_inv_ref hq hk.1 hk.2
  refine gq_aldn hc dL_law_1677 rfl ?_
  refine gq_callV (as := []) hc (c_X13_image w hr hm hz3 hz6) my_X13_image mv_X13_image ca_703 rfl rfl lm_L_205 rfl rfl (by decide) (by decide) (Nat.le_of_ble_eq_true rfl) hu0 dL_law_1678 (fun r2 n2 A2 J2 R2 h2 => ?_)
  obtain rfl := h2.1.1
  obtain rfl := h2.1.2.1
  refine gq_icmp_same (tgt := 1724) hc dL_law_1681 (by decide) ?_
  exact kk _ _ _ _ _ (by omega) (by omega) (k_image hq hA1 h2)
set_option maxHeartbeats 4000000 in
set_option maxRecDepth 100000 in
theorem L_43 (H : lw_ok w x b Ls xs) (hi : 0 ≤ i ∧ i + 6 ≤ (Ls : Int)) (hu : u + 1 ≤ x.2.2.2.2.2.2.2.2.2.1 ∧ v + 6 ≤ x.2.2.2.2.2.2.2.2.2.2) (hr : g_rf w R lb tx) (hq : q_inv A lb) (kk : lw_K w x P u v b i) : GQ w x P u v g_n A J R 1686 (lw_L w b i) [] := by
  obtain ⟨hc, hX, hbl, hbA, hLs, hgx, hst⟩ := H
  have hu0 : u + 0 ≤ x.2.2.2.2.2.2.2.2.2.1 ∧ v + 0 ≤ x.2.2.2.2.2.2.2.2.2.2 := ⟨by omega, by omega⟩
  obtain ⟨⟨clb, cg, cin, ctb⟩, cck, clv, cll, clt, cac, cbr, cim, c77, ctp, ckl, c43⟩ := q_inv_cls hq
  have clk := hq.2.2.2.2.2.2.1
  have c552 := hq.2.2.2.2.2.2.2.2.2
  refine gq_aldn hc dL_law_1686 rfl ?_
  refine gq_callV (as := []) hc (c_X12_back w hr clb cg cin ctb cim) my_X12_back mv_X12_back ca_0 rfl rfl lm_L_206 rfl rfl (by decide) (by decide) (Nat.le_of_ble_eq_true rfl) hu0 dL_law_1687 (fun r1 n1 A1 J1 R1 h1 => ?_)
  obtain ⟨rfl, rfl, hA1, rfl, rfl⟩ := h1
  have hk := k_hi_back hq
  rw [← hA1] at hk
  have g1 := hk.2
  obtain ⟨hm, hu2, hbr, hi2, htp, ⟨hz3, hz7, hz6⟩, h705⟩ := q_inv_ref hq hk.1 hk.2
  refine gq_aldn hc dL_law_1690 rfl ?_
  refine gq_callV (as := []) hc (c_X13_back w hr hm hi2 hu2 hz3 hz6) my_X13_back mv_X13_back ca_703 rfl rfl lm_L_209 rfl rfl (by decide) (by decide) (Nat.le_of_ble_eq_true rfl) hu0 dL_law_1691 (fun r2 n2 A2 J2 R2 h2 => ?_)
  obtain rfl := h2.1.1
  obtain rfl := h2.1.2.1
  refine gq_icmp_same (tgt := 1724) hc dL_law_1694 (by decide) ?_
  subst hA1
  exact kk _ _ _ _ _ (by omega) (by omega) (k_back hq h2)
set_option maxHeartbeats 4000000 in
set_option maxRecDepth 100000 in
theorem L_44 (H : lw_ok w x b Ls xs) (hi : 0 ≤ i ∧ i + 6 ≤ (Ls : Int)) (hu : u + 1 ≤ x.2.2.2.2.2.2.2.2.2.1 ∧ v + 6 ≤ x.2.2.2.2.2.2.2.2.2.2) (hr : g_rf w R lb tx) (hq : q_inv A lb) (kk : lw_K w x P u v b i) : GQ w x P u v g_n A J R 1699 (lw_L w b i) [] := by
  obtain ⟨hc, hX, hbl, hbA, hLs, hgx, hst⟩ := H
  have hu0 : u + 0 ≤ x.2.2.2.2.2.2.2.2.2.1 ∧ v + 0 ≤ x.2.2.2.2.2.2.2.2.2.2 := ⟨by omega, by omega⟩
  obtain ⟨⟨clb, cg, cin, ctb⟩, cck, clv, cll, clt, cac, cbr, cim, c77, ctp, ckl, c43⟩ := q_inv_cls hq
  have clk := hq.2.2.2.2.2.2.1
  have c552 := hq.2.2.2.2.2.2.2.2.2
  refine gq_aldn hc dL_law_1699 rfl ?_
  refine gq_aload_n hc dL_law_1700 rfl ?_
  refine gq_iload hc dL_law_1701 rfl ?_
  refine gq_iconst hc dL_law_1703 ?_
  refine gq_iadd hc dL_law_1704 ?_
  refine gq_sld hc hX hbl hbA (by omega) (by omega) (by omega) dL_law_1705 ?_
  refine gq_callV (as := [gvI (lw_i xs (i + 1))]) hc (c_X12_count w hr clb cg (fun _ _ => rfl) cg cin ctb lw_i32) my_X12_count mv_X12_count ca_0 rfl rfl lm_L_210 rfl rfl (by decide) (by decide) (Nat.le_of_ble_eq_true rfl) hu0 dL_law_1706 (fun r1 n1 A1 J1 R1 h1 => ?_)
  obtain ⟨rfl, rfl, e1, g1, hJ9, hR9⟩ := h1
  obtain rfl : J = J1 := hJ9
  obtain rfl : R = R1 := hR9
  have hk : k_hi A A1 := ⟨fun k hk => e1 k (by unfold g_sc; omega), g1⟩
  obtain ⟨hm, hu2, hbr, hi2, htp, ⟨hz3, hz7, hz6⟩, h705⟩ := q_inv_ref hq hk.1 hk.2
  refine gq_aldn hc dL_law_1709 rfl ?_
  refine gq_aload_n hc dL_law_1710 rfl ?_
  refine gq_iload hc dL_law_1711 rfl ?_
  refine gq_iconst hc dL_law_1713 ?_
  refine gq_iadd hc dL_law_1714 ?_
  refine gq_sld hc hX hbl hbA (by omega) (by omega) (by omega) dL_law_1715 ?_
  refine gq_callV (as := [gvI (lw_i xs (i + 1))]) hc (c_X13_count w hr hm lw_i32 hbr hu2.1 htp.1) my_X13_count mv_X13_count ca_703 rfl rfl lm_L_213 rfl rfl (by decide) (by decide) (Nat.le_of_ble_eq_true rfl) hu0 dL_law_1716 (fun r2 n2 A2 J2 R2 h2 => ?_)
  obtain rfl := h2.1
  obtain rfl := h2.2.1
  refine gq_icmp_same (tgt := 1724) hc dL_law_1719 (by decide) ?_
  obtain ⟨-, -, e2, g2, -, t2, hr2⟩ := h2
  exact kk _ _ _ _ _ (by omega) (by omega) ⟨lb, t2, hr2, q_inv_ask hq e1 g1 e2 g2⟩
end LCASE
