set_option maxHeartbeats 4000000 in
set_option maxRecDepth 100000 in
/-- X7_partsBehind -/
theorem c_X7_partsBehind (w : g_W) {I : g_I} {J : g_J} {R : g_R} {lb tx : Nat} (hR : g_rf w R lb tx) (hlb : g_life lb) {I2 : g_I} (hI : ∀ k j, g32 (I k j)) (hsI2 : g_off I I2) (hxI2 : ∀ k j, g32 (I2 k j)) (hC : g_cin I lb) {p f r m : Int} (h1 : 0 ≤ f ∧ f < I lb 1) (h2 : 0 ≤ r ∧ r < I (lb + 43) f) (h3 : 0 ≤ p ∧ p ≤ 1000000000) (h4 : g32 m) : g_Met w g_n I2 J R yX7_partsBehind cX7_partsBehind 6 (some .int) 5 0 0 [(gvr w 548), (gvI p), (gvI f), (gvI r), (gvI m)] (fun rr nn II JJ RR => g_rel w (some (gvI (g_pbh I lb p f r m))) g_sT I2 J R rr nn II JJ RR) := by
  refine g_intro (own := RX7) [some (gvr w 548), some (gvI p), some (gvI f), some (gvI r), some (gvI m), none] (by decide +kernel) rfl (by decide) (Nat.le_of_ble_eq_true rfl) rfl (fun i v hv => g_args 1 i v hv rfl) (fun x hc hm => ?_)
  have hL := hC.1
  obtain ⟨hn0, hn1, hLs, hLf⟩ := id hL
  obtain ⟨-, hC1, hC2, hC3, hC4, hC5, hC6, hC7⟩ := id hC
  have hlb5 := hlb
  unfold g_life at hlb5
  have hdI2 : ∀ k : Nat, ¬ g_sT k → I2 k = I2 k := fun _ _ => rfl
  obtain ⟨hk2, hk1, hy, hit⟩ := hLf f h1.1 h1.2
  obtain ⟨hi0, hi1, hi2, hi3, -, -⟩ := hit r h2.1 h2.2
  have hbc := g_bc_in (a := m)
  have hb1 := g_and1 (a := g_shr m r)
  have hwin := g_wt_in (m := m) (fun r h0 h1 => (hit r h0 h1).1) (I (lb + 43) f).toNat (by omega)
  have hmul := g_mul64 (l := p) (r := I (lb + 47 + (f * 4 + r).toNat) 0) (by omega) (by omega)
  refine g_iload hc dX7_partsBehind_0 rfl ?_
  refine g_iload_n hc dX7_partsBehind_2 rfl ?_
  refine g_ishr hc dX7_partsBehind_3 ?_
  refine g_iconst hc dX7_partsBehind_4 ?_
  refine g_iand hc dX7_partsBehind_5 ?_
  refine g_if_ne (tgt := 11) hc dX7_partsBehind_6 (by decide) (by first | exact hI _ _ | exact hxI2 _ _ | exact hIa _ _ | exact hIb _ _ | exact g_b32 | exact g_and32 | assumption | exact ⟨by omega, by omega⟩) (fun c1 => ?_) (fun c1 => ?_)
  · skip
    refine g_aldn hc dX7_partsBehind_11 rfl ?_
    refine g_getRvk hc lk_X7_25 ca_548 (rc_548_3 hR) dX7_partsBehind_12 ?_
    refine g_getRk hc lk_X7_110 (la_0 hlb) (rl_7 hR hlb) dX7_partsBehind_15 ?_
    refine g_iload_n hc dX7_partsBehind_18 rfl ?_
    refine g_ialde hc (la_42 hlb) (by decide) (by omega) (by omega) (congrFun (hsI2 _ (by omega)) _) dX7_partsBehind_19 ?_
    refine g_iconst hc dX7_partsBehind_20 ?_
    refine g_icmp_ne (tgt := 64) hc dX7_partsBehind_21 (by decide) (by first | exact hI _ _ | exact hxI2 _ _ | exact hIa _ _ | exact hIb _ _ | exact g_b32 | exact g_and32 | assumption | exact ⟨by omega, by omega⟩) (by first | exact hI _ _ | exact hxI2 _ _ | exact hIa _ _ | exact hIb _ _ | exact g_b32 | exact g_and32 | assumption | exact ⟨by omega, by omega⟩) (fun c2 => ?_) (fun c2 => ?_)
    · skip
      refine g_aldn hc dX7_partsBehind_64 rfl ?_
      refine g_getRk hc lk_X7_12 ca_548 (rc_548_1 hR) dX7_partsBehind_65 ?_
      refine g_getRk hc lk_X7_33 ca_549 (rc_549_0 hR) dX7_partsBehind_68 ?_
      refine g_iconst hc dX7_partsBehind_71 ?_
      refine g_ialde hc ca_550 (by decide) (by omega) (by omega) (congrFun (hsI2 _ (by decide)) _) dX7_partsBehind_72 ?_
      refine g_iconst hc dX7_partsBehind_73 ?_
      refine g_icmp_ne (tgt := 98) hc dX7_partsBehind_74 (by decide) (by first | exact hI _ _ | exact hxI2 _ _ | exact hIa _ _ | exact hIb _ _ | exact g_b32 | exact g_and32 | assumption | exact ⟨by omega, by omega⟩) (by first | exact hI _ _ | exact hxI2 _ _ | exact hIa _ _ | exact hIb _ _ | exact g_b32 | exact g_and32 | assumption | exact ⟨by omega, by omega⟩) (fun c3 => ?_) (fun c3 => ?_)
      · skip
        refine g_aldn hc dX7_partsBehind_98 rfl ?_
        refine g_iload_n hc dX7_partsBehind_99 rfl ?_
        refine g_iload hc dX7_partsBehind_100 rfl ?_
        refine g_V2 hc (c_X7_chosen w hR hlb hI hsI2 hxI2 hC (by omega) (by first | exact hI _ _ | exact hxI2 _ _ | exact hIa _ _ | exact hIb _ _ | exact g_b32 | exact g_and32 | assumption | exact ⟨by omega, by omega⟩)) my_X7_chosen mv_X7_chosen ca_548 rfl rfl lm_X7_116 rfl (by decide) (Nat.le_of_ble_eq_true rfl) hm dX7_partsBehind_102 (fun r3 n3 I3 J3 R3 hp3 => ?_)
        obtain ⟨rfl, rfl, hfI3, hxI3, rfl, rfl⟩ := hp3
        have hsI3 : g_off I I3 := fun k hk => (hfI3 k (fun q => hk (by omega))).trans (hsI2 k hk)
        have hdI3 : ∀ k : Nat, ¬ g_sT k → I3 k = I2 k := fun k hk => (hfI3 k (fun q => hk (by omega))).trans (hdI2 k hk)
        refine g_iload_n hc dX7_partsBehind_105 rfl ?_
        refine g_icmp_ne (tgt := 113) hc dX7_partsBehind_106 (by decide) (by exact g_cho32 hk2 (by omega)) (by exact ⟨by omega, by omega⟩) (fun c4 => ?_) (fun c4 => ?_)
        · skip
          refine g_iconst hc dX7_partsBehind_113 ?_
          refine g_iret hc hm dX7_partsBehind_114 ?_
          first | (exfalso; omega) | exact g_relE (by rw [g_pbh, if_neg (by omega), if_neg (by assumption), if_neg (by assumption), if_neg (by assumption)]) hdI3 hxI3 | exact g_relE (by rw [g_pbh, if_neg (by omega), if_neg (by assumption), if_neg (by assumption), if_pos (by assumption)]) hdI3 hxI3
        · skip
          refine g_iload_n hc dX7_partsBehind_109 rfl ?_
          refine g_goto (tgt := 114) hc dX7_partsBehind_110 (by decide) ?_
          refine g_iret hc hm dX7_partsBehind_114 ?_
          first | (exfalso; omega) | exact g_relE (by rw [g_pbh, if_neg (by omega), if_neg (by assumption), if_neg (by assumption), if_neg (by assumption)]) hdI3 hxI3 | exact g_relE (by rw [g_pbh, if_neg (by omega), if_neg (by assumption), if_neg (by assumption), if_pos (by assumption)]) hdI3 hxI3
      · skip
        refine g_iload hc dX7_partsBehind_77 rfl ?_
        refine g_S1r hc (c_J6_bitCount_0f7a4 w) my_J6_bitCount_0f7a4 ms_J6_bitCount_0f7a4 lm_X7_84 rfl (by decide) (Nat.le_of_ble_eq_true rfl) hm dX7_partsBehind_79 ?_
        refine g_istore_5 hc dX7_partsBehind_82 rfl ?_
        refine g_iload hc dX7_partsBehind_84 rfl ?_
        refine g_if_ne (tgt := 93) hc dX7_partsBehind_86 (by decide) (by exact ⟨by omega, by omega⟩) (fun c5 => ?_) (fun c5 => ?_)
        · skip
          have hmd := g_tdiv1 (p := p) (c := g_bc m) h3.1 (by omega)
          refine g_iload_n hc dX7_partsBehind_93 rfl ?_
          refine g_iload hc dX7_partsBehind_94 rfl ?_
          refine g_idiv hc dX7_partsBehind_96 (by exact ⟨by omega, by omega⟩) (by exact ⟨by omega, by omega⟩) (by omega) ?_
          refine g_iret hc hm dX7_partsBehind_97 ?_
          first | (exfalso; omega) | exact g_relE (by rw [g_pbh, if_neg (by omega), if_neg (by assumption), if_pos (by assumption), if_pos (by assumption)]) hdI2 hxI2 | exact g_relE (by rw [g_pbh, if_neg (by omega), if_neg (by assumption), if_pos (by assumption), if_neg (by assumption)]) hdI2 hxI2
        · skip
          refine g_iconst hc dX7_partsBehind_89 ?_
          refine g_goto (tgt := 97) hc dX7_partsBehind_90 (by decide) ?_
          refine g_iret hc hm dX7_partsBehind_97 ?_
          first | (exfalso; omega) | exact g_relE (by rw [g_pbh, if_neg (by omega), if_neg (by assumption), if_pos (by assumption), if_pos (by assumption)]) hdI2 hxI2 | exact g_relE (by rw [g_pbh, if_neg (by omega), if_neg (by assumption), if_pos (by assumption), if_neg (by assumption)]) hdI2 hxI2
    · skip
      refine g_aldn hc dX7_partsBehind_24 rfl ?_
      refine g_getRvk hc lk_X7_25 ca_548 (rc_548_3 hR) dX7_partsBehind_25 ?_
      refine g_iload_n hc dX7_partsBehind_28 rfl ?_
      refine g_iload hc dX7_partsBehind_29 rfl ?_
      refine g_V2r hc (c_X4_weights w hR hxI2 hlb (by omega) (by first | omega | (rw [hsI2 _ (g_nl hlb (by omega) (by omega))]; omega))) my_X4_weights mv_X4_weights (la_0 hlb) rfl rfl lm_X7_113 rfl (by decide) (Nat.le_of_ble_eq_true rfl) hm dX7_partsBehind_31 ?_
      rw [show g_wt I2 lb f m (I2 (lb + 43) f).toNat = g_wt I lb f m (I (lb + 43) f).toNat from by rw [hsI2 _ (g_nl hlb (by omega) (by omega)), g_wt_cg hsI2 hlb (by omega) _ (by omega)]]
      refine g_istore_5 hc dX7_partsBehind_34 rfl ?_
      refine g_iload hc dX7_partsBehind_36 rfl ?_
      refine g_if_ne (tgt := 45) hc dX7_partsBehind_38 (by decide) (by exact ⟨by omega, by omega⟩) (fun c6 => ?_) (fun c6 => ?_)
      · skip
        have hwge := g_wt_ge (m := m) (fun r h0 h1 => (hit r h0 h1).1) h2.1 (by show _ = (1 : Int); omega) (I (lb + 43) f).toNat (by omega) (by omega)
        have hmd := g_mulDiv (p := p) (a := I (lb + 47 + (f * 4 + r).toNat) 0) (c := g_wt I lb f m (I (lb + 43) f).toNat) h3.1 (by omega) hwge (by omega)
        refine g_iload_n hc dX7_partsBehind_45 rfl ?_
        refine g_i2l hc dX7_partsBehind_46 (by first | exact hI _ _ | exact hxI2 _ _ | exact hIa _ _ | exact hIb _ _ | exact g_b32 | exact g_and32 | assumption | exact ⟨by omega, by omega⟩) ?_
        refine g_aldn hc dX7_partsBehind_47 rfl ?_
        refine g_getRvk hc lk_X7_25 ca_548 (rc_548_3 hR) dX7_partsBehind_48 ?_
        refine g_iload_n hc dX7_partsBehind_51 rfl ?_
        refine g_iload_n hc dX7_partsBehind_52 rfl ?_
        refine g_V2r hc (c_X4_weight w hR hxI2 hlb (by omega) (by omega)) my_X4_weight mv_X4_weight (la_0 hlb) rfl rfl lm_X7_99 rfl (by decide) (Nat.le_of_ble_eq_true rfl) hm dX7_partsBehind_53 ?_
        rw [show I2 (lb + 47 + (f * 4 + r).toNat) 0 = I (lb + 47 + (f * 4 + r).toNat) 0 from by rw [hsI2 _ (g_nl hlb (by omega) (by omega))]]
        refine g_i2l hc dX7_partsBehind_56 (by first | exact hI _ _ | exact hxI2 _ _ | exact hIa _ _ | exact hIb _ _ | exact g_b32 | exact g_and32 | assumption | exact ⟨by omega, by omega⟩) ?_
        refine g_lmul hc dX7_partsBehind_57 ?_
        refine g_iload hc dX7_partsBehind_58 rfl ?_
        refine g_i2l hc dX7_partsBehind_60 (by exact ⟨by omega, by omega⟩) ?_
        refine g_ldiv hc dX7_partsBehind_61 (by exact ⟨by omega, by omega⟩) (by exact ⟨by omega, by omega⟩) (by omega) ?_
        refine g_l2i hc dX7_partsBehind_62 ?_
        refine g_iret hc hm dX7_partsBehind_63 ?_
        first | (exfalso; omega) | exact g_relE (by rw [g_pbh, if_neg (by omega), if_pos (by assumption), if_pos (by assumption)]) hdI2 hxI2 | exact g_relE (by rw [g_pbh, if_neg (by omega), if_pos (by assumption), if_neg (by assumption)]) hdI2 hxI2
      · skip
        refine g_iconst hc dX7_partsBehind_41 ?_
        refine g_goto (tgt := 63) hc dX7_partsBehind_42 (by decide) ?_
        refine g_iret hc hm dX7_partsBehind_63 ?_
        first | (exfalso; omega) | exact g_relE (by rw [g_pbh, if_neg (by omega), if_pos (by assumption), if_pos (by assumption)]) hdI2 hxI2 | exact g_relE (by rw [g_pbh, if_neg (by omega), if_pos (by assumption), if_neg (by assumption)]) hdI2 hxI2
  · skip
    refine g_iconst hc dX7_partsBehind_9 ?_
    refine g_iret hc hm dX7_partsBehind_10 ?_
    exact g_relE (by rw [g_pbh, if_pos (by omega)]) hdI2 hxI2
