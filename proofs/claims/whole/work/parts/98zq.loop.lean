/-! ===== the law's loop ===== -/
section LLOOP
variable {w : g_W} {x : g_C} {P : State → Prop} {b Ls : Nat} {xs : Nat → Int32}
theorem lw_63 {a : Int} : 0 ≤ g_and a 63 ∧ g_and a 63 ≤ 63 := by
  have h := g_andm (a := a) (m := 63) 6 (by decide +kernel) (by decide)
  have h2 : (2 : Int) ^ 6 = 64 := by decide
  omega
set_option maxHeartbeats 4000000 in
set_option maxRecDepth 100000 in
/-- one turn: the case that the script names -/
theorem lw_turn {u v : Nat} {A : g_I} {J : g_J} {R : g_R} {i : Int} {lb tx : Nat} (H : lw_ok w x b Ls xs) (hi : 0 ≤ i ∧ i + 6 ≤ (Ls : Int)) (hu : u + 1 ≤ x.2.2.2.2.2.2.2.2.2.1 ∧ v + 6 ≤ x.2.2.2.2.2.2.2.2.2.2) (hr : g_rf w R lb tx) (hq : q_inv A lb) (kk : lw_K w x P u v b i) : GQ w x P u v g_n A J R 33 (lw_L w b i) [] := by
  have hc := H.1
  have hX := H.2.1
  have hbl := H.2.2.1
  have hbA := H.2.2.2.1
  have hLs := H.2.2.2.2.1
  refine gq_aload_n hc dL_law_33 rfl ?_
  refine gq_iload hc dL_law_34 rfl ?_
  refine gq_sld hc hX hbl hbA (by omega) (by omega) (by omega) dL_law_36 ?_
  refine gq_bipush hc dL_law_37 (by decide +kernel) ?_
  refine gq_iand hc dL_law_39 ?_
  have h63 := lw_63 (a := lw_i xs i)
  generalize g_and (lw_i xs i) 63 = z at h63
  by_cases hz : 44 < z
  · refine gq_tableOut (tgt := 1724) hc dL_law_40 ⟨by omega, by omega⟩ (Or.inr hz) (by decide) ?_
    exact kk _ _ _ _ _ (by omega) (by omega) ⟨lb, tx, hr, hq⟩
  · obtain ⟨k, rfl⟩ : ∃ k : Nat, z = (k : Int) := ⟨z.toNat, by omega⟩
    have hk : k < 45 := by omega
    match k, hk with
    | 0, _ => exact gq_tableIn (off := 196) (tgt := 236) hc dL_law_40 ⟨by decide, by decide⟩ (by decide) (by decide) rfl (by decide) (L_0 H hi hu hr hq kk)
    | 1, _ => exact gq_tableIn (off := 269) (tgt := 309) hc dL_law_40 ⟨by decide, by decide⟩ (by decide) (by decide) rfl (by decide) (L_1 H hi hu hr hq kk)
    | 2, _ => exact gq_tableIn (off := 294) (tgt := 334) hc dL_law_40 ⟨by decide, by decide⟩ (by decide) (by decide) rfl (by decide) (L_2 H hi hu hr hq kk)
    | 3, _ => exact gq_tableIn (off := 319) (tgt := 359) hc dL_law_40 ⟨by decide, by decide⟩ (by decide) (by decide) rfl (by decide) (L_3 H hi hu hr hq kk)
    | 4, _ => exact gq_tableIn (off := 344) (tgt := 384) hc dL_law_40 ⟨by decide, by decide⟩ (by decide) (by decide) rfl (by decide) (L_4 H hi hu hr hq kk)
    | 5, _ => exact gq_tableIn (off := 369) (tgt := 409) hc dL_law_40 ⟨by decide, by decide⟩ (by decide) (by decide) rfl (by decide) (L_5 H hi hu hr hq kk)
    | 6, _ => exact gq_tableIn (off := 437) (tgt := 477) hc dL_law_40 ⟨by decide, by decide⟩ (by decide) (by decide) rfl (by decide) (L_6 H hi hu hr hq kk)
    | 7, _ => exact gq_tableIn (off := 474) (tgt := 514) hc dL_law_40 ⟨by decide, by decide⟩ (by decide) (by decide) rfl (by decide) (L_7 H hi hu hr hq kk)
    | 8, _ => exact gq_tableIn (off := 511) (tgt := 551) hc dL_law_40 ⟨by decide, by decide⟩ (by decide) (by decide) rfl (by decide) (L_8 H hi hu hr hq kk)
    | 9, _ => exact gq_tableIn (off := 560) (tgt := 600) hc dL_law_40 ⟨by decide, by decide⟩ (by decide) (by decide) rfl (by decide) (L_9 H hi hu hr hq kk)
    | 10, _ => exact gq_tableIn (off := 609) (tgt := 649) hc dL_law_40 ⟨by decide, by decide⟩ (by decide) (by decide) rfl (by decide) (L_10 H hi hu hr hq kk)
    | 11, _ => exact gq_tableIn (off := 674) (tgt := 714) hc dL_law_40 ⟨by decide, by decide⟩ (by decide) (by decide) rfl (by decide) (L_11 H hi hu hr hq kk)
    | 12, _ => exact gq_tableIn (off := 711) (tgt := 751) hc dL_law_40 ⟨by decide, by decide⟩ (by decide) (by decide) rfl (by decide) (L_12 H hi hu hr hq kk)
    | 13, _ => exact gq_tableIn (off := 724) (tgt := 764) hc dL_law_40 ⟨by decide, by decide⟩ (by decide) (by decide) rfl (by decide) (L_13 H hi hu hr hq kk)
    | 14, _ => exact gq_tableIn (off := 749) (tgt := 789) hc dL_law_40 ⟨by decide, by decide⟩ (by decide) (by decide) rfl (by decide) (L_14 H hi hu hr hq kk)
    | 15, _ => exact gq_tableIn (off := 774) (tgt := 814) hc dL_law_40 ⟨by decide, by decide⟩ (by decide) (by decide) rfl (by decide) (L_15 H hi hu hr hq kk)
    | 16, _ => exact gq_tableIn (off := 799) (tgt := 839) hc dL_law_40 ⟨by decide, by decide⟩ (by decide) (by decide) rfl (by decide) (L_16 H hi hu hr hq kk)
    | 17, _ => exact gq_tableIn (off := 836) (tgt := 876) hc dL_law_40 ⟨by decide, by decide⟩ (by decide) (by decide) rfl (by decide) (L_17 H hi hu hr hq kk)
    | 18, _ => exact gq_tableIn (off := 861) (tgt := 901) hc dL_law_40 ⟨by decide, by decide⟩ (by decide) (by decide) rfl (by decide) (L_18 H hi hu hr hq kk)
    | 19, _ => exact gq_tableIn (off := 898) (tgt := 938) hc dL_law_40 ⟨by decide, by decide⟩ (by decide) (by decide) rfl (by decide) (L_19 H hi hu hr hq kk)
    | 20, _ => exact gq_tableIn (off := 935) (tgt := 975) hc dL_law_40 ⟨by decide, by decide⟩ (by decide) (by decide) rfl (by decide) (L_20 H hi hu hr hq kk)
    | 21, _ => exact gq_tableIn (off := 972) (tgt := 1012) hc dL_law_40 ⟨by decide, by decide⟩ (by decide) (by decide) rfl (by decide) (L_21 H hi hu hr hq kk)
    | 22, _ => exact gq_tableIn (off := 1009) (tgt := 1049) hc dL_law_40 ⟨by decide, by decide⟩ (by decide) (by decide) rfl (by decide) (L_22 H hi hu hr hq kk)
    | 23, _ => exact gq_tableIn (off := 1034) (tgt := 1074) hc dL_law_40 ⟨by decide, by decide⟩ (by decide) (by decide) rfl (by decide) (L_23 H hi hu hr hq kk)
    | 24, _ => exact gq_tableIn (off := 1059) (tgt := 1099) hc dL_law_40 ⟨by decide, by decide⟩ (by decide) (by decide) rfl (by decide) (L_24 H hi hu hr hq kk)
    | 25, _ => exact gq_tableIn (off := 1084) (tgt := 1124) hc dL_law_40 ⟨by decide, by decide⟩ (by decide) (by decide) rfl (by decide) (L_25 H hi hu hr hq kk)
    | 26, _ => exact gq_tableIn (off := 1109) (tgt := 1149) hc dL_law_40 ⟨by decide, by decide⟩ (by decide) (by decide) rfl (by decide) (L_26 H hi hu hr hq kk)
    | 27, _ => exact gq_tableIn (off := 1146) (tgt := 1186) hc dL_law_40 ⟨by decide, by decide⟩ (by decide) (by decide) rfl (by decide) (L_27 H hi hu hr hq kk)
    | 28, _ => exact gq_tableIn (off := 1159) (tgt := 1199) hc dL_law_40 ⟨by decide, by decide⟩ (by decide) (by decide) rfl (by decide) (L_28 H hi hu hr hq kk)
    | 29, _ => exact gq_tableIn (off := 1172) (tgt := 1212) hc dL_law_40 ⟨by decide, by decide⟩ (by decide) (by decide) rfl (by decide) (L_29 H hi hu hr hq kk)
    | 30, _ => exact gq_tableIn (off := 1197) (tgt := 1237) hc dL_law_40 ⟨by decide, by decide⟩ (by decide) (by decide) rfl (by decide) (L_30 H hi hu hr hq kk)
    | 31, _ => exact gq_tableIn (off := 1222) (tgt := 1262) hc dL_law_40 ⟨by decide, by decide⟩ (by decide) (by decide) rfl (by decide) (L_31 H hi hu hr hq kk)
    | 32, _ => exact gq_tableIn (off := 1247) (tgt := 1287) hc dL_law_40 ⟨by decide, by decide⟩ (by decide) (by decide) rfl (by decide) (L_32 H hi hu hr hq kk)
    | 33, _ => exact gq_tableIn (off := 1260) (tgt := 1300) hc dL_law_40 ⟨by decide, by decide⟩ (by decide) (by decide) rfl (by decide) (L_33 H hi hu hr hq kk)
    | 34, _ => exact gq_tableIn (off := 1297) (tgt := 1337) hc dL_law_40 ⟨by decide, by decide⟩ (by decide) (by decide) rfl (by decide) (L_34 H hi hu hr hq kk)
    | 35, _ => exact gq_tableIn (off := 1346) (tgt := 1386) hc dL_law_40 ⟨by decide, by decide⟩ (by decide) (by decide) rfl (by decide) (L_35 H hi hu hr hq kk)
    | 36, _ => exact gq_tableIn (off := 1371) (tgt := 1411) hc dL_law_40 ⟨by decide, by decide⟩ (by decide) (by decide) rfl (by decide) (L_36 H hi hu hr hq kk)
    | 37, _ => exact gq_tableIn (off := 1408) (tgt := 1448) hc dL_law_40 ⟨by decide, by decide⟩ (by decide) (by decide) rfl (by decide) (L_37 H hi hu hr hq kk)
    | 38, _ => exact gq_tableIn (off := 1457) (tgt := 1497) hc dL_law_40 ⟨by decide, by decide⟩ (by decide) (by decide) rfl (by decide) (L_38 H hi hu hr hq kk)
    | 39, _ => exact gq_tableIn (off := 1514) (tgt := 1554) hc dL_law_40 ⟨by decide, by decide⟩ (by decide) (by decide) rfl (by decide) (L_39 H hi hu hr hq kk)
    | 40, _ => exact gq_tableIn (off := 1539) (tgt := 1579) hc dL_law_40 ⟨by decide, by decide⟩ (by decide) (by decide) rfl (by decide) (L_40 H hi hu hr hq kk)
    | 41, _ => exact gq_tableIn (off := 1552) (tgt := 1592) hc dL_law_40 ⟨by decide, by decide⟩ (by decide) (by decide) rfl (by decide) (L_41 H hi hu hr hq kk)
    | 42, _ => exact gq_tableIn (off := 1633) (tgt := 1673) hc dL_law_40 ⟨by decide, by decide⟩ (by decide) (by decide) rfl (by decide) (L_42 H hi hu hr hq kk)
    | 43, _ => exact gq_tableIn (off := 1646) (tgt := 1686) hc dL_law_40 ⟨by decide, by decide⟩ (by decide) (by decide) rfl (by decide) (L_43 H hi hu hr hq kk)
    | 44, _ => exact gq_tableIn (off := 1659) (tgt := 1699) hc dL_law_40 ⟨by decide, by decide⟩ (by decide) (by decide) rfl (by decide) (L_44 H hi hu hr hq kk)
    | k + 45, h => exact absurd h (by omega)
set_option maxHeartbeats 4000000 in
set_option maxRecDepth 100000 in
/-- the loop -/
theorem lw_loop (H : lw_ok w x b Ls xs) (hmc : 601024 ≤ x.2.2.2.2.2.2.2.2.2.1 ∧ 7293033 ≤ x.2.2.2.2.2.2.2.2.2.2) (kend : ∀ (u v : Nat) (A : g_I) (J : g_J) (R : g_R) (i : Int), u ≤ 601024 → v ≤ 7293033 → GQ w x P u v g_n A J R 1730 (lw_L w b i) []) :
    ∀ (fu : Nat) (i : Int) (u v : Nat) (A : g_I) (J : g_J) (R : g_R) (lb tx : Nat), (0 ≤ i ∧ i ≤ 4000) → (u : Int) ≤ 1000 + i → (v : Int) ≤ 20000 + i → g_rf w R lb tx → q_inv A lb → (Ls : Int) - i < (fu : Int) → GQ w x P u v g_n A J R 23 (lw_L w b i) [] := by
  have hc := H.1
  have hX := H.2.1
  have hbl := H.2.2.1
  have hbA := H.2.2.2.1
  have hLs := H.2.2.2.2.1
  have step : ∀ (i : Int) (u v : Nat) (A : g_I) (J : g_J) (R : g_R) (lb tx : Nat), (0 ≤ i ∧ i ≤ 4000) → (u : Int) ≤ 1000 + i → (v : Int) ≤ 20000 + i → g_rf w R lb tx → q_inv A lb → (i + 6 ≤ (Ls : Int) → GQ w x P u v g_n A J R 33 (lw_L w b i) []) → GQ w x P u v g_n A J R 23 (lw_L w b i) [] := by
    intro i u v A J R lb tx h0 h1 h2 hr hq h33
    refine gq_iload hc dL_law_23 rfl ?_
    refine gq_aload_n hc dL_law_25 rfl ?_
    refine gq_slen hc hX hbl hbA dL_law_26 ?_
    refine gq_bipush hc dL_law_27 (by decide +kernel) ?_
    refine gq_isub hc dL_law_29 ?_
    refine gq_icmp_gt (tgt := 1730) hc dL_law_30 (by decide) ⟨by omega, by omega⟩ ⟨by omega, by omega⟩ (fun _ => ?_) (fun c => ?_)
    · exact kend _ _ _ _ _ _ (by omega) (by omega)
    · exact h33 (by omega)
  intro fu
  induction fu with
  | zero =>
    intro i u v A J R lb tx h0 h1 h2 hr hq hfu
    exact step i u v A J R lb tx h0 h1 h2 hr hq (fun h => by exfalso; omega)
  | succ fu ih =>
    intro i u v A J R lb tx h0 h1 h2 hr hq hfu
    refine step i u v A J R lb tx h0 h1 h2 hr hq (fun h => ?_)
    refine lw_turn H ⟨h0.1, h⟩ ⟨by omega, by omega⟩ hr hq (fun u2 v2 A2 J2 R2 hu2 hv2 he => ?_)
    obtain ⟨lb2, tx2, hr2, hq2⟩ := he
    refine gq_iinc_4 hc dL_law_1724 rfl ?_
    refine gq_goto (tgt := 23) hc dL_law_1727 (by decide) ?_
    exact ih (i + 6) u2 v2 A2 J2 R2 lb2 tx2 ⟨by omega, by omega⟩ (by omega) (by omega) hr2 hq2 (by omega)
end LLOOP
