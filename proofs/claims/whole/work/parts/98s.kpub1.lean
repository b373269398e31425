set_option maxHeartbeats 4000000 in
set_option maxRecDepth 100000 in
/-- X12_isTaste -/
theorem c_X12_isTaste (w : g_W) {I : g_I} {J : g_J} {R : g_R} {lb tx : Nat} (hR : g_rf w R lb tx) (hlb : g_life lb) {I2 : g_I} (hI : ∀ k j, g32 (I k j)) (hsI2 : g_off I I2) (hxI2 : ∀ k j, g32 (I2 k j)) (hC : g_cin I lb) (hTb : I 0 12 = -1 ∨ (0 ≤ I 0 12 ∧ I 0 12 ≤ 2)) {s : Int} (g1 : g32 s) : g_Met w g_n I2 J R yX12_isTaste cX12_isTaste 2 (some .boolean) 0 0 0 [(gvr w 0), (gvI s)] (g_post (some (gvI (g_b (0 ≤ s ∧ s < I 0 11)))) g_n I2 J R) := by
  refine g_intro (own := RX12) [some (gvr w 0), some (gvI s)] (by decide +kernel) rfl (by decide) (Nat.le_of_ble_eq_true rfl) rfl (fun i v hv => g_args 0 i v hv rfl) (fun x hc hm => ?_)
  have hL := hC.1
  obtain ⟨hn0, hn1, hLs, hLf⟩ := id hL
  obtain ⟨-, hC1, hC2, hC3, hC4, hC5, hC6, hC7⟩ := id hC
  have hlb5 := hlb
  unfold g_life at hlb5
  have hdI2 : ∀ k : Nat, ¬ g_sc k → I2 k = I2 k := fun _ _ => rfl
  refine g_iload_n hc dX12_isTaste_0 rfl ?_
  refine g_if_lt (tgt := 16) hc dX12_isTaste_1 (by decide) (by first | exact hI _ _ | exact hxI2 _ _ | exact hIa _ _ | exact hIb _ _ | exact g_b32 | exact g_and32 | assumption | exact ⟨by omega, by omega⟩) (fun c1 => ?_) (fun c1 => ?_)
  · skip
    refine g_iconst hc dX12_isTaste_16 ?_
    refine g_zret hc hm (by first | exact g_b01 | omega) dX12_isTaste_17 ?_
    first | (exfalso; omega) | (exfalso; omega) | exact g_postE (by rw [g_b1 (by omega)]) | exact g_postE (by rw [g_b0 (by omega)])
  · skip
    refine g_iload_n hc dX12_isTaste_4 rfl ?_
    refine g_aldn hc dX12_isTaste_5 rfl ?_
    refine g_getIe hc lk_X12_109 ca_0 11 rfl (congrFun (hsI2 _ (by decide)) _) dX12_isTaste_6 ?_
    refine g_icmp_ge (tgt := 16) hc dX12_isTaste_9 (by decide) (by first | exact hI _ _ | exact hxI2 _ _ | exact hIa _ _ | exact hIb _ _ | exact g_b32 | exact g_and32 | assumption | exact ⟨by omega, by omega⟩) (by first | exact hI _ _ | exact hxI2 _ _ | exact hIa _ _ | exact hIb _ _ | exact g_b32 | exact g_and32 | assumption | exact ⟨by omega, by omega⟩) (fun c2 => ?_) (fun c2 => ?_)
    · skip
      refine g_iconst hc dX12_isTaste_16 ?_
      refine g_zret hc hm (by first | exact g_b01 | omega) dX12_isTaste_17 ?_
      first | (exfalso; omega) | (exfalso; omega) | exact g_postE (by rw [g_b1 (by omega)]) | exact g_postE (by rw [g_b0 (by omega)])
    · skip
      refine g_iconst hc dX12_isTaste_12 ?_
      refine g_goto (tgt := 17) hc dX12_isTaste_13 (by decide) ?_
      refine g_zret hc hm (by first | exact g_b01 | omega) dX12_isTaste_17 ?_
      first | (exfalso; omega) | (exfalso; omega) | exact g_postE (by rw [g_b1 (by omega)]) | exact g_postE (by rw [g_b0 (by omega)])
set_option maxHeartbeats 4000000 in
set_option maxRecDepth 100000 in
/-- X12_isPot -/
theorem c_X12_isPot (w : g_W) {I : g_I} {J : g_J} {R : g_R} {lb tx : Nat} (hR : g_rf w R lb tx) (hlb : g_life lb) {I2 : g_I} (hI : ∀ k j, g32 (I k j)) (hsI2 : g_off I I2) (hxI2 : ∀ k j, g32 (I2 k j)) (hC : g_cin I lb) (hTb : I 0 12 = -1 ∨ (0 ≤ I 0 12 ∧ I 0 12 ≤ 2)) {s : Int} (g1 : g32 s) : g_Met w g_n I2 J R yX12_isPot cX12_isPot 2 (some .boolean) 0 0 0 [(gvr w 0), (gvI s)] (g_post (some (gvI (g_b (0 ≤ s ∧ s ≤ 9999)))) g_n I2 J R) := by
  refine g_intro (own := RX12) [some (gvr w 0), some (gvI s)] (by decide +kernel) rfl (by decide) (Nat.le_of_ble_eq_true rfl) rfl (fun i v hv => g_args 0 i v hv rfl) (fun x hc hm => ?_)
  have hL := hC.1
  obtain ⟨hn0, hn1, hLs, hLf⟩ := id hL
  obtain ⟨-, hC1, hC2, hC3, hC4, hC5, hC6, hC7⟩ := id hC
  have hlb5 := hlb
  unfold g_life at hlb5
  have hdI2 : ∀ k : Nat, ¬ g_sc k → I2 k = I2 k := fun _ _ => rfl
  refine g_iload_n hc dX12_isPot_0 rfl ?_
  refine g_if_lt (tgt := 15) hc dX12_isPot_1 (by decide) (by first | exact hI _ _ | exact hxI2 _ _ | exact hIa _ _ | exact hIb _ _ | exact g_b32 | exact g_and32 | assumption | exact ⟨by omega, by omega⟩) (fun c1 => ?_) (fun c1 => ?_)
  · skip
    refine g_iconst hc dX12_isPot_15 ?_
    refine g_zret hc hm (by first | exact g_b01 | omega) dX12_isPot_16 ?_
    first | (exfalso; omega) | (exfalso; omega) | exact g_postE (by rw [g_b1 (by omega)]) | exact g_postE (by rw [g_b0 (by omega)])
  · skip
    refine g_iload_n hc dX12_isPot_4 rfl ?_
    refine g_sipush hc dX12_isPot_5 (by decide +kernel) ?_
    refine g_icmp_gt (tgt := 15) hc dX12_isPot_8 (by decide) (by first | exact hI _ _ | exact hxI2 _ _ | exact hIa _ _ | exact hIb _ _ | exact g_b32 | exact g_and32 | assumption | exact ⟨by omega, by omega⟩) (by first | exact hI _ _ | exact hxI2 _ _ | exact hIa _ _ | exact hIb _ _ | exact g_b32 | exact g_and32 | assumption | exact ⟨by omega, by omega⟩) (fun c2 => ?_) (fun c2 => ?_)
    · skip
      refine g_iconst hc dX12_isPot_15 ?_
      refine g_zret hc hm (by first | exact g_b01 | omega) dX12_isPot_16 ?_
      first | (exfalso; omega) | (exfalso; omega) | exact g_postE (by rw [g_b1 (by omega)]) | exact g_postE (by rw [g_b0 (by omega)])
    · skip
      refine g_iconst hc dX12_isPot_11 ?_
      refine g_goto (tgt := 16) hc dX12_isPot_12 (by decide) ?_
      refine g_zret hc hm (by first | exact g_b01 | omega) dX12_isPot_16 ?_
      first | (exfalso; omega) | (exfalso; omega) | exact g_postE (by rw [g_b1 (by omega)]) | exact g_postE (by rw [g_b0 (by omega)])
set_option maxHeartbeats 4000000 in
set_option maxRecDepth 100000 in
/-- X12_differentSelves -/
theorem c_X12_differentSelves (w : g_W) {I : g_I} {J : g_J} {R : g_R} {lb tx : Nat} (hR : g_rf w R lb tx) (hlb : g_life lb) {I2 : g_I} (hI : ∀ k j, g32 (I k j)) (hsI2 : g_off I I2) (hxI2 : ∀ k j, g32 (I2 k j)) (hC : g_cin I lb) (hTb : I 0 12 = -1 ∨ (0 ≤ I 0 12 ∧ I 0 12 ≤ 2)) {s t : Int} (g1 : g32 s) (g2 : g32 t) : g_Met w g_n I2 J R yX12_differentSelves cX12_differentSelves 3 (some .boolean) 1 0 0 [(gvr w 0), (gvI s), (gvI t)] (g_post (some (gvI (g_b (((0 ≤ s ∧ s < I lb 0) ∧ 0 ≤ t ∧ t < I lb 0) ∧ ¬ s = t)))) g_n I2 J R) := by
  refine g_intro (own := RX12) [some (gvr w 0), some (gvI s), some (gvI t)] (by decide +kernel) rfl (by decide) (Nat.le_of_ble_eq_true rfl) rfl (fun i v hv => g_args 0 i v hv rfl) (fun x hc hm => ?_)
  have hL := hC.1
  obtain ⟨hn0, hn1, hLs, hLf⟩ := id hL
  obtain ⟨-, hC1, hC2, hC3, hC4, hC5, hC6, hC7⟩ := id hC
  have hlb5 := hlb
  unfold g_life at hlb5
  have hdI2 : ∀ k : Nat, ¬ g_sc k → I2 k = I2 k := fun _ _ => rfl
  refine g_aldn hc dX12_differentSelves_0 rfl ?_
  refine g_getRk hc lk_X12_51 ca_0 (rc_0_5 hR) dX12_differentSelves_1 ?_
  refine g_getRvk hc lk_X12_118 ca_548 (rc_548_3 hR) dX12_differentSelves_4 ?_
  refine g_iload_n hc dX12_differentSelves_7 rfl ?_
  refine g_V1r hc (c_X4_hasLeaf w hR hxI2 hlb (by first | exact hI _ _ | exact hxI2 _ _ | exact hIa _ _ | exact hIb _ _ | exact g_b32 | exact g_and32 | assumption | exact ⟨by omega, by omega⟩)) my_X4_hasLeaf mv_X4_hasLeaf (la_0 hlb) rfl rfl lm_X12_125 rfl (by decide) (Nat.le_of_ble_eq_true rfl) hm dX12_differentSelves_8 ?_
  rw [show I2 (lb) 0 = I (lb) 0 from by rw [hsI2 _ (g_nl hlb (by omega) (by omega))]]
  refine g_ifb_eq (tgt := 37) hc dX12_differentSelves_11 (by decide)  (fun c1 => ?_) (fun c1 => ?_)
  · skip
    refine g_iconst hc dX12_differentSelves_37 ?_
    refine g_zret hc hm (by first | exact g_b01 | omega) dX12_differentSelves_38 ?_
    first | (exfalso; omega) | (exfalso; omega) | exact g_postE (by rw [g_b1 (by omega)]) | exact g_postE (by rw [g_b0 (by omega)])
  · skip
    refine g_aldn hc dX12_differentSelves_14 rfl ?_
    refine g_getRk hc lk_X12_51 ca_0 (rc_0_5 hR) dX12_differentSelves_15 ?_
    refine g_getRvk hc lk_X12_118 ca_548 (rc_548_3 hR) dX12_differentSelves_18 ?_
    refine g_iload_n hc dX12_differentSelves_21 rfl ?_
    refine g_V1r hc (c_X4_hasLeaf w hR hxI2 hlb (by first | exact hI _ _ | exact hxI2 _ _ | exact hIa _ _ | exact hIb _ _ | exact g_b32 | exact g_and32 | assumption | exact ⟨by omega, by omega⟩)) my_X4_hasLeaf mv_X4_hasLeaf (la_0 hlb) rfl rfl lm_X12_125 rfl (by decide) (Nat.le_of_ble_eq_true rfl) hm dX12_differentSelves_22 ?_
    rw [show I2 (lb) 0 = I (lb) 0 from by rw [hsI2 _ (g_nl hlb (by omega) (by omega))]]
    refine g_ifb_eq (tgt := 37) hc dX12_differentSelves_25 (by decide)  (fun c2 => ?_) (fun c2 => ?_)
    · skip
      refine g_iconst hc dX12_differentSelves_37 ?_
      refine g_zret hc hm (by first | exact g_b01 | omega) dX12_differentSelves_38 ?_
      first | (exfalso; omega) | (exfalso; omega) | exact g_postE (by rw [g_b1 (by omega)]) | exact g_postE (by rw [g_b0 (by omega)])
    · skip
      refine g_iload_n hc dX12_differentSelves_28 rfl ?_
      refine g_iload_n hc dX12_differentSelves_29 rfl ?_
      refine g_icmp_eq (tgt := 37) hc dX12_differentSelves_30 (by decide) (by first | exact hI _ _ | exact hxI2 _ _ | exact hIa _ _ | exact hIb _ _ | exact g_b32 | exact g_and32 | assumption | exact ⟨by omega, by omega⟩) (by first | exact hI _ _ | exact hxI2 _ _ | exact hIa _ _ | exact hIb _ _ | exact g_b32 | exact g_and32 | assumption | exact ⟨by omega, by omega⟩) (fun c3 => ?_) (fun c3 => ?_)
      · skip
        refine g_iconst hc dX12_differentSelves_37 ?_
        refine g_zret hc hm (by first | exact g_b01 | omega) dX12_differentSelves_38 ?_
        first | (exfalso; omega) | (exfalso; omega) | exact g_postE (by rw [g_b1 (by omega)]) | exact g_postE (by rw [g_b0 (by omega)])
      · skip
        refine g_iconst hc dX12_differentSelves_33 ?_
        refine g_goto (tgt := 38) hc dX12_differentSelves_34 (by decide) ?_
        refine g_zret hc hm (by first | exact g_b01 | omega) dX12_differentSelves_38 ?_
        first | (exfalso; omega) | (exfalso; omega) | exact g_postE (by rw [g_b1 (by omega)]) | exact g_postE (by rw [g_b0 (by omega)])
set_option maxHeartbeats 4000000 in
set_option maxRecDepth 100000 in
/-- X12_odds -/
theorem c_X12_odds (w : g_W) {I : g_I} {J : g_J} {R : g_R} {lb tx : Nat} (hR : g_rf w R lb tx) (hlb : g_life lb) {I2 : g_I} (hI : ∀ k j, g32 (I k j)) (hsI2 : g_off I I2) (hxI2 : ∀ k j, g32 (I2 k j)) (hC : g_cin I lb) (hTb : I 0 12 = -1 ∨ (0 ≤ I 0 12 ∧ I 0 12 ≤ 2)) {s : Int} (g1 : g32 s) : g_Met w g_n I2 J R yX12_odds cX12_odds 2 (some .int) 7 0 0 [(gvr w 0), (gvI s)] (fun rr nn II JJ RR => g_rel w (some (gvI (if (0 ≤ s ∧ s < I lb 0) then g_pts I lb s 0 else -1))) g_sc I2 J R rr nn II JJ RR) := by
  refine g_intro (own := RX12) [some (gvr w 0), some (gvI s)] (by decide +kernel) rfl (by decide) (Nat.le_of_ble_eq_true rfl) rfl (fun i v hv => g_args 0 i v hv rfl) (fun x hc hm => ?_)
  have hL := hC.1
  obtain ⟨hn0, hn1, hLs, hLf⟩ := id hL
  obtain ⟨-, hC1, hC2, hC3, hC4, hC5, hC6, hC7⟩ := id hC
  have hlb5 := hlb
  unfold g_life at hlb5
  have hdI2 : ∀ k : Nat, ¬ g_sc k → I2 k = I2 k := fun _ _ => rfl
  refine g_aldn hc dX12_odds_0 rfl ?_
  refine g_getRk hc lk_X12_51 ca_0 (rc_0_5 hR) dX12_odds_1 ?_
  refine g_getRvk hc lk_X12_118 ca_548 (rc_548_3 hR) dX12_odds_4 ?_
  refine g_iload_n hc dX12_odds_7 rfl ?_
  refine g_V1r hc (c_X4_hasLeaf w hR hxI2 hlb (by first | exact hI _ _ | exact hxI2 _ _ | exact hIa _ _ | exact hIb _ _ | exact g_b32 | exact g_and32 | assumption | exact ⟨by omega, by omega⟩)) my_X4_hasLeaf mv_X4_hasLeaf (la_0 hlb) rfl rfl lm_X12_125 rfl (by decide) (Nat.le_of_ble_eq_true rfl) hm dX12_odds_8 ?_
  rw [show I2 (lb) 0 = I (lb) 0 from by rw [hsI2 _ (g_nl hlb (by omega) (by omega))]]
  refine g_ifb_eq (tgt := 26) hc dX12_odds_11 (by decide)  (fun c1 => ?_) (fun c1 => ?_)
  · skip
    refine g_iconst hc dX12_odds_26 ?_
    refine g_iret hc hm dX12_odds_27 ?_
    exact g_relE (by rw [if_neg (by omega)]) hdI2 hxI2
  · skip
    refine g_aldn hc dX12_odds_14 rfl ?_
    refine g_getRk hc lk_X12_51 ca_0 (rc_0_5 hR) dX12_odds_15 ?_
    refine g_iload_n hc dX12_odds_18 rfl ?_
    refine g_iconst hc dX12_odds_19 ?_
    refine g_V2 hc (c_X7_parts w hR hlb hI hsI2 hxI2 hC (by omega) (by omega)) my_X7_parts mv_X7_parts ca_548 rfl rfl lm_X12_219 rfl (by decide) (Nat.le_of_ble_eq_true rfl) hm dX12_odds_20 (fun r3 n3 I3 J3 R3 hp3 => ?_)
    obtain ⟨rfl, rfl, hfI3, hxI3, rfl, rfl⟩ := hp3
    have hsI3 : g_off I I3 := fun k hk => (hfI3 k (fun q => hk (by omega))).trans (hsI2 k hk)
    have hdI3 : ∀ k : Nat, ¬ g_sc k → I3 k = I2 k := fun k hk => (hfI3 k (fun q => hk (by omega))).trans (hdI2 k hk)
    refine g_goto (tgt := 27) hc dX12_odds_23 (by decide) ?_
    refine g_iret hc hm dX12_odds_27 ?_
    exact g_relE (by rw [if_pos (by omega)]) hdI3 hxI3
set_option maxHeartbeats 4000000 in
set_option maxRecDepth 100000 in
/-- X12_worth -/
theorem c_X12_worth (w : g_W) {I : g_I} {J : g_J} {R : g_R} {lb tx : Nat} (hR : g_rf w R lb tx) (hlb : g_life lb) {I2 : g_I} (hI : ∀ k j, g32 (I k j)) (hsI2 : g_off I I2) (hxI2 : ∀ k j, g32 (I2 k j)) (hC : g_cin I lb) (hTb : I 0 12 = -1 ∨ (0 ≤ I 0 12 ∧ I 0 12 ≤ 2)) {s : Int} (g1 : g32 s) : g_Met w g_n I2 J R yX12_worth cX12_worth 2 (some .int) 5 0 0 [(gvr w 0), (gvI s)] (fun rr nn II JJ RR => g_rel w (some (gvI (if (0 ≤ s ∧ s < I lb 0) then g_lkd I lb s else -2000000000))) g_sc I2 J R rr nn II JJ RR) := by
  refine g_intro (own := RX12) [some (gvr w 0), some (gvI s)] (by decide +kernel) rfl (by decide) (Nat.le_of_ble_eq_true rfl) rfl (fun i v hv => g_args 0 i v hv rfl) (fun x hc hm => ?_)
  have hL := hC.1
  obtain ⟨hn0, hn1, hLs, hLf⟩ := id hL
  obtain ⟨-, hC1, hC2, hC3, hC4, hC5, hC6, hC7⟩ := id hC
  have hlb5 := hlb
  unfold g_life at hlb5
  have hdI2 : ∀ k : Nat, ¬ g_sc k → I2 k = I2 k := fun _ _ => rfl
  refine g_aldn hc dX12_worth_0 rfl ?_
  refine g_getRk hc lk_X12_51 ca_0 (rc_0_5 hR) dX12_worth_1 ?_
  refine g_getRvk hc lk_X12_118 ca_548 (rc_548_3 hR) dX12_worth_4 ?_
  refine g_iload_n hc dX12_worth_7 rfl ?_
  refine g_V1r hc (c_X4_hasLeaf w hR hxI2 hlb (by first | exact hI _ _ | exact hxI2 _ _ | exact hIa _ _ | exact hIb _ _ | exact g_b32 | exact g_and32 | assumption | exact ⟨by omega, by omega⟩)) my_X4_hasLeaf mv_X4_hasLeaf (la_0 hlb) rfl rfl lm_X12_125 rfl (by decide) (Nat.le_of_ble_eq_true rfl) hm dX12_worth_8 ?_
  rw [show I2 (lb) 0 = I (lb) 0 from by rw [hsI2 _ (g_nl hlb (by omega) (by omega))]]
  refine g_ifb_eq (tgt := 25) hc dX12_worth_11 (by decide)  (fun c1 => ?_) (fun c1 => ?_)
  · skip
    refine g_ldc (k := (-2000000000)) hc dX12_worth_25 _ lc_X12_223 (by decide +kernel) ?_
    refine g_iret hc hm dX12_worth_27 ?_
    exact g_relE (by rw [if_neg (by omega)]) hdI2 hxI2
  · skip
    refine g_aldn hc dX12_worth_14 rfl ?_
    refine g_getRk hc lk_X12_51 ca_0 (rc_0_5 hR) dX12_worth_15 ?_
    refine g_iload_n hc dX12_worth_18 rfl ?_
    refine g_V1 hc (c_X7_liked w hR hlb hI hsI2 hxI2 hC (by omega)) my_X7_liked mv_X7_liked ca_548 rfl rfl lm_X12_227 rfl (by decide) (Nat.le_of_ble_eq_true rfl) hm dX12_worth_19 (fun r3 n3 I3 J3 R3 hp3 => ?_)
    obtain ⟨⟨rfl, rfl, hfI3, hxI3, rfl, rfl⟩, hb3⟩ := hp3
    have hsI3 : g_off I I3 := fun k hk => (hfI3 k (fun q => hk (by omega))).trans (hsI2 k hk)
    have hdI3 : ∀ k : Nat, ¬ g_sc k → I3 k = I2 k := fun k hk => (hfI3 k (fun q => hk (by omega))).trans (hdI2 k hk)
    refine g_goto (tgt := 27) hc dX12_worth_22 (by decide) ?_
    refine g_iret hc hm dX12_worth_27 ?_
    exact g_relE (by rw [if_pos (by omega)]) hdI3 hxI3
set_option maxHeartbeats 4000000 in
set_option maxRecDepth 100000 in
/-- X12_way -/
theorem c_X12_way (w : g_W) {I : g_I} {J : g_J} {R : g_R} {lb tx : Nat} (hR : g_rf w R lb tx) (hlb : g_life lb) {I2 : g_I} (hI : ∀ k j, g32 (I k j)) (hsI2 : g_off I I2) (hxI2 : ∀ k j, g32 (I2 k j)) (hC : g_cin I lb) (hTb : I 0 12 = -1 ∨ (0 ≤ I 0 12 ∧ I 0 12 ≤ 2)) {s i : Int} (g1 : g32 s) (g2 : g32 i) : g_Met w g_n I2 J R yX12_way cX12_way 3 (some .int) 1 0 0 [(gvr w 0), (gvI s), (gvI i)] (fun rr nn II JJ RR => g_rel w (some (gvI (if (0 ≤ s ∧ s < I lb 0) ∧ 0 ≤ i ∧ i < I (lb + 14) s then 10 * I (lb + 16 + s.toNat) i + I (lb + 29 + s.toNat) i else -1))) g_sc I2 J R rr nn II JJ RR) := by
  refine g_intro (own := RX12) [some (gvr w 0), some (gvI s), some (gvI i)] (by decide +kernel) rfl (by decide) (Nat.le_of_ble_eq_true rfl) rfl (fun i v hv => g_args 0 i v hv rfl) (fun x hc hm => ?_)
  have hL := hC.1
  obtain ⟨hn0, hn1, hLs, hLf⟩ := id hL
  obtain ⟨-, hC1, hC2, hC3, hC4, hC5, hC6, hC7⟩ := id hC
  have hlb5 := hlb
  unfold g_life at hlb5
  have hdI2 : ∀ k : Nat, ¬ g_sc k → I2 k = I2 k := fun _ _ => rfl
  refine g_aldn hc dX12_way_0 rfl ?_
  refine g_getRk hc lk_X12_51 ca_0 (rc_0_5 hR) dX12_way_1 ?_
  refine g_getRvk hc lk_X12_118 ca_548 (rc_548_3 hR) dX12_way_4 ?_
  refine g_iload_n hc dX12_way_7 rfl ?_
  refine g_V1r hc (c_X4_hasLeaf w hR hxI2 hlb (by first | exact hI _ _ | exact hxI2 _ _ | exact hIa _ _ | exact hIb _ _ | exact g_b32 | exact g_and32 | assumption | exact ⟨by omega, by omega⟩)) my_X4_hasLeaf mv_X4_hasLeaf (la_0 hlb) rfl rfl lm_X12_125 rfl (by decide) (Nat.le_of_ble_eq_true rfl) hm dX12_way_8 ?_
  rw [show I2 (lb) 0 = I (lb) 0 from by rw [hsI2 _ (g_nl hlb (by omega) (by omega))]]
  refine g_ifb_eq (tgt := 34) hc dX12_way_11 (by decide)  (fun c1 => ?_) (fun c1 => ?_)
  · skip
    refine g_iconst hc dX12_way_34 ?_
    refine g_iret hc hm dX12_way_35 ?_
    exact g_relE (by rw [if_neg (by omega)]) hdI2 hxI2
  · skip
    have h1 := c1
    obtain ⟨hst, hway, -⟩ := hLs s h1.1 h1.2
    refine g_iload_n hc dX12_way_14 rfl ?_
    refine g_if_lt (tgt := 34) hc dX12_way_15 (by decide) (by first | exact hI _ _ | exact hxI2 _ _ | exact hIa _ _ | exact hIb _ _ | exact g_b32 | exact g_and32 | assumption | exact ⟨by omega, by omega⟩) (fun c2 => ?_) (fun c2 => ?_)
    · skip
      refine g_iconst hc dX12_way_34 ?_
      refine g_iret hc hm dX12_way_35 ?_
      exact g_relE (by rw [if_neg (by omega)]) hdI2 hxI2
    · skip
      refine g_iload_n hc dX12_way_18 rfl ?_
      refine g_aldn hc dX12_way_19 rfl ?_
      refine g_getRk hc lk_X12_51 ca_0 (rc_0_5 hR) dX12_way_20 ?_
      refine g_getRvk hc lk_X12_118 ca_548 (rc_548_3 hR) dX12_way_23 ?_
      refine g_getRk hc lk_X12_139 (la_0 hlb) (rl_3 hR hlb) dX12_way_26 ?_
      refine g_iload_n hc dX12_way_29 rfl ?_
      refine g_ialde hc (la_14 hlb) (by decide) (by omega) (by omega) (congrFun (hsI2 _ (by omega)) _) dX12_way_30 ?_
      refine g_icmp_lt (tgt := 36) hc dX12_way_31 (by decide) (by first | exact hI _ _ | exact hxI2 _ _ | exact hIa _ _ | exact hIb _ _ | exact g_b32 | exact g_and32 | assumption | exact ⟨by omega, by omega⟩) (by first | exact hI _ _ | exact hxI2 _ _ | exact hIa _ _ | exact hIb _ _ | exact g_b32 | exact g_and32 | assumption | exact ⟨by omega, by omega⟩) (fun c3 => ?_) (fun c3 => ?_)
      · skip
        refine g_bipush hc dX12_way_36 (by decide +kernel) ?_
        refine g_aldn hc dX12_way_38 rfl ?_
        refine g_getRk hc lk_X12_51 ca_0 (rc_0_5 hR) dX12_way_39 ?_
        refine g_getRvk hc lk_X12_118 ca_548 (rc_548_3 hR) dX12_way_42 ?_
        refine g_getRk hc lk_X12_147 (la_0 hlb) (rl_4 hR hlb) dX12_way_45 ?_
        refine g_iload_n hc dX12_way_48 rfl ?_
        refine g_aaldk hc (la_15 hlb) (by decide) rfl rfl (by decide) (by omega) (by omega) (rl_wf hR hlb (by omega) (by omega)) dX12_way_49 ?_
        refine g_iload_n hc dX12_way_50 rfl ?_
        refine g_ialde hc (la_wf hlb (by omega) (by omega)) (by decide) (by omega) (by omega) (congrFun (hsI2 _ (by omega)) _) dX12_way_51 ?_
        refine g_imul hc dX12_way_52 ?_
        refine g_aldn hc dX12_way_53 rfl ?_
        refine g_getRk hc lk_X12_51 ca_0 (rc_0_5 hR) dX12_way_54 ?_
        refine g_getRvk hc lk_X12_118 ca_548 (rc_548_3 hR) dX12_way_57 ?_
        refine g_getRk hc lk_X12_150 (la_0 hlb) (rl_5 hR hlb) dX12_way_60 ?_
        refine g_iload_n hc dX12_way_63 rfl ?_
        refine g_aaldk hc (la_28 hlb) (by decide) rfl rfl (by decide) (by omega) (by omega) (rl_wb hR hlb (by omega) (by omega)) dX12_way_64 ?_
        refine g_iload_n hc dX12_way_65 rfl ?_
        refine g_ialde hc (la_wb hlb (by omega) (by omega)) (by decide) (by omega) (by omega) (congrFun (hsI2 _ (by omega)) _) dX12_way_66 ?_
        refine g_iadd hc dX12_way_67 ?_
        refine g_iret hc hm dX12_way_68 ?_
        exact g_relE (by rw [if_pos (by omega)]) hdI2 hxI2
      · skip
        refine g_iconst hc dX12_way_34 ?_
        refine g_iret hc hm dX12_way_35 ?_
        exact g_relE (by rw [if_neg (by omega)]) hdI2 hxI2
set_option maxHeartbeats 4000000 in
set_option maxRecDepth 100000 in
/-- X12_part -/
theorem c_X12_part (w : g_W) {I : g_I} {J : g_J} {R : g_R} {lb tx : Nat} (hR : g_rf w R lb tx) (hlb : g_life lb) {I2 : g_I} (hI : ∀ k j, g32 (I k j)) (hsI2 : g_off I I2) (hxI2 : ∀ k j, g32 (I2 k j)) (hC : g_cin I lb) (hTb : I 0 12 = -1 ∨ (0 ≤ I 0 12 ∧ I 0 12 ≤ 2)) {s t k : Int} (g1 : g32 s) (g2 : g32 t) (g3 : g32 k) : g_Met w g_n I2 J R yX12_part cX12_part 5 (some .int) 2 0 0 [(gvr w 0), (gvI s), (gvI t), (gvI k)] (fun rr nn II JJ RR => g_rel w (some (gvI (if (((0 ≤ s ∧ s < I lb 0) ∧ 0 ≤ t ∧ t < I lb 0) ∧ ¬ s = t) ∧ 0 ≤ k ∧ k ≤ 1 then (if k = 0 then g_prt I lb s t else I (lb + 41) (g_prt I lb s t)) else -1))) g_sc I2 J R rr nn II JJ RR) := by
  refine g_intro (own := RX12) [some (gvr w 0), some (gvI s), some (gvI t), some (gvI k), none] (by decide +kernel) rfl (by decide) (Nat.le_of_ble_eq_true rfl) rfl (fun i v hv => g_args 1 i v hv rfl) (fun x hc hm => ?_)
  have hL := hC.1
  obtain ⟨hn0, hn1, hLs, hLf⟩ := id hL
  obtain ⟨-, hC1, hC2, hC3, hC4, hC5, hC6, hC7⟩ := id hC
  have hlb5 := hlb
  unfold g_life at hlb5
  have hdI2 : ∀ k : Nat, ¬ g_sc k → I2 k = I2 k := fun _ _ => rfl
  refine g_aldn hc dX12_part_0 rfl ?_
  refine g_iload_n hc dX12_part_1 rfl ?_
  refine g_iload_n hc dX12_part_2 rfl ?_
  refine g_V2r hc (c_X12_differentSelves w hR hlb hI hsI2 hxI2 hC hTb (by first | assumption | exact hI _ _ | exact ⟨by omega, by omega⟩) (by first | assumption | exact hI _ _ | exact ⟨by omega, by omega⟩)) my_X12_differentSelves mv_X12_differentSelves ca_0 rfl rfl lm_X12_194 rfl (by decide) (Nat.le_of_ble_eq_true rfl) hm dX12_part_3 ?_
  refine g_ifb_eq (tgt := 18) hc dX12_part_6 (by decide)  (fun c1 => ?_) (fun c1 => ?_)
  · skip
    refine g_iconst hc dX12_part_18 ?_
    refine g_iret hc hm dX12_part_19 ?_
    exact g_relE (by rw [if_neg (by omega)]) hdI2 hxI2
  · skip
    have h1 := c1
    obtain ⟨hst, hway, -⟩ := hLs s h1.1.1.1 h1.1.1.2
    obtain ⟨hst2, hway2, -⟩ := hLs t h1.1.2.1 h1.1.2.2
    refine g_iload_n hc dX12_part_9 rfl ?_
    refine g_if_lt (tgt := 18) hc dX12_part_10 (by decide) (by first | exact hI _ _ | exact hxI2 _ _ | exact hIa _ _ | exact hIb _ _ | exact g_b32 | exact g_and32 | assumption | exact ⟨by omega, by omega⟩) (fun c2 => ?_) (fun c2 => ?_)
    · skip
      refine g_iconst hc dX12_part_18 ?_
      refine g_iret hc hm dX12_part_19 ?_
      exact g_relE (by rw [if_neg (by omega)]) hdI2 hxI2
    · skip
      refine g_iload_n hc dX12_part_13 rfl ?_
      refine g_iconst hc dX12_part_14 ?_
      refine g_icmp_le (tgt := 20) hc dX12_part_15 (by decide) (by first | exact hI _ _ | exact hxI2 _ _ | exact hIa _ _ | exact hIb _ _ | exact g_b32 | exact g_and32 | assumption | exact ⟨by omega, by omega⟩) (by first | exact hI _ _ | exact hxI2 _ _ | exact hIa _ _ | exact hIb _ _ | exact g_b32 | exact g_and32 | assumption | exact ⟨by omega, by omega⟩) (fun c3 => ?_) (fun c3 => ?_)
      · skip
        refine g_aldn hc dX12_part_20 rfl ?_
        refine g_getRk hc lk_X12_51 ca_0 (rc_0_5 hR) dX12_part_21 ?_
        refine g_getRvk hc lk_X12_118 ca_548 (rc_548_3 hR) dX12_part_24 ?_
        refine g_iload_n hc dX12_part_27 rfl ?_
        refine g_iload_n hc dX12_part_28 rfl ?_
        refine g_V2r hc (c_X4_parting w hR hxI2 hlb (by omega) (by omega) (by first | omega | (rw [hsI2 _ (g_nl hlb (by omega) (by omega))]; omega)) (by first | omega | (rw [hsI2 _ (g_nl hlb (by omega) (by omega))]; omega))) my_X4_parting mv_X4_parting (la_0 hlb) rfl rfl lm_X12_197 rfl (by decide) (Nat.le_of_ble_eq_true rfl) hm dX12_part_29 ?_
        rw [show g_prt I2 lb s t = g_prt I lb s t from g_prt_cg hsI2 hlb (by omega) (by omega)]
        have hpin := g_prn_in (I := I) (b := lb) (s := s) (t := t) (m := 20) (by decide) (min (I (lb + 14) s) (I (lb + 14) t)).toNat (fun i h0 h1 => by have := (hway i h0 (by omega)).1; omega)
        change 0 ≤ g_prt I lb s t ∧ g_prt I lb s t < 20 at hpin
        refine g_istore_4 hc dX12_part_32 rfl ?_
        refine g_iload_n hc dX12_part_34 rfl ?_
        refine g_if_ne (tgt := 43) hc dX12_part_35 (by decide) (by first | exact hI _ _ | exact hxI2 _ _ | exact hIa _ _ | exact hIb _ _ | exact g_b32 | exact g_and32 | assumption | exact ⟨by omega, by omega⟩) (fun c4 => ?_) (fun c4 => ?_)
        · skip
          refine g_aldn hc dX12_part_43 rfl ?_
          refine g_getRk hc lk_X12_51 ca_0 (rc_0_5 hR) dX12_part_44 ?_
          refine g_getRvk hc lk_X12_118 ca_548 (rc_548_3 hR) dX12_part_47 ?_
          refine g_getRk hc lk_X12_156 (la_0 hlb) (rl_6 hR hlb) dX12_part_50 ?_
          refine g_iload hc dX12_part_53 rfl ?_
          refine g_ialde hc (la_41 hlb) (by decide) (by omega) (by omega) (congrFun (hsI2 _ (by omega)) _) dX12_part_55 ?_
          refine g_iret hc hm dX12_part_56 ?_
          exact g_relE (by rw [if_pos (by omega), if_neg (by omega)]) hdI2 hxI2
        · skip
          refine g_iload hc dX12_part_38 rfl ?_
          refine g_goto (tgt := 56) hc dX12_part_40 (by decide) ?_
          refine g_iret hc hm dX12_part_56 ?_
          exact g_relE (by rw [if_pos (by omega), if_pos (by omega)]) hdI2 hxI2
      · skip
        refine g_iconst hc dX12_part_18 ?_
        refine g_iret hc hm dX12_part_19 ?_
        exact g_relE (by rw [if_neg (by omega)]) hdI2 hxI2
set_option maxHeartbeats 4000000 in
set_option maxRecDepth 100000 in
/-- X12_advice -/
theorem c_X12_advice (w : g_W) {I : g_I} {J : g_J} {R : g_R} {lb tx : Nat} (hR : g_rf w R lb tx) (hlb : g_life lb) {I2 : g_I} (hI : ∀ k j, g32 (I k j)) (hsI2 : g_off I I2) (hxI2 : ∀ k j, g32 (I2 k j)) (hC : g_cin I lb) (hTb : I 0 12 = -1 ∨ (0 ≤ I 0 12 ∧ I 0 12 ≤ 2)) {f : Int} (g1 : g32 f) : g_Met w g_n I2 J R yX12_advice cX12_advice 2 (some .int) 6 0 0 [(gvr w 0), (gvI f)] (fun rr nn II JJ RR => g_rel w (some (gvI (if (0 ≤ f ∧ f < I lb 1) then g_bst I lb (g_w5 I lb) f else -1))) g_sc I2 J R rr nn II JJ RR) := by
  refine g_intro (own := RX12) [some (gvr w 0), some (gvI f)] (by decide +kernel) rfl (by decide) (Nat.le_of_ble_eq_true rfl) rfl (fun i v hv => g_args 0 i v hv rfl) (fun x hc hm => ?_)
  have hL := hC.1
  obtain ⟨hn0, hn1, hLs, hLf⟩ := id hL
  obtain ⟨-, hC1, hC2, hC3, hC4, hC5, hC6, hC7⟩ := id hC
  have hlb5 := hlb
  unfold g_life at hlb5
  have hdI2 : ∀ k : Nat, ¬ g_sc k → I2 k = I2 k := fun _ _ => rfl
  refine g_aldn hc dX12_advice_0 rfl ?_
  refine g_getRk hc lk_X12_51 ca_0 (rc_0_5 hR) dX12_advice_1 ?_
  refine g_getRvk hc lk_X12_118 ca_548 (rc_548_3 hR) dX12_advice_4 ?_
  refine g_iload_n hc dX12_advice_7 rfl ?_
  refine g_V1r hc (c_X4_hasFork w hR hxI2 hlb (by first | exact hI _ _ | exact hxI2 _ _ | exact hIa _ _ | exact hIb _ _ | exact g_b32 | exact g_and32 | assumption | exact ⟨by omega, by omega⟩)) my_X4_hasFork mv_X4_hasFork (la_0 hlb) rfl rfl lm_X12_153 rfl (by decide) (Nat.le_of_ble_eq_true rfl) hm dX12_advice_8 ?_
  rw [show I2 (lb) 1 = I (lb) 1 from by rw [hsI2 _ (g_nl hlb (by omega) (by omega))]]
  refine g_ifb_ne (tgt := 16) hc dX12_advice_11 (by decide)  (fun c1 => ?_) (fun c1 => ?_)
  · skip
    refine g_aldn hc dX12_advice_16 rfl ?_
    refine g_getRk hc lk_X12_60 ca_0 (rc_0_6 hR) dX12_advice_17 ?_
    refine g_V0 hc (c_X11_reckon w hR hlb hI hsI2 hxI2 hC) my_X11_reckon mv_X11_reckon ca_683 rfl rfl lm_X12_230 rfl (by decide) (Nat.le_of_ble_eq_true rfl) hm dX12_advice_20 (fun r3 n3 I3 J3 R3 hp3 => ?_)
    obtain ⟨⟨rfl, rfl, hfI3, hxI3, rfl, rfl⟩, hVI3⟩ := hp3
    have hsI3 : g_off I I3 := fun k hk => (hfI3 k (fun q => hk (by omega))).trans (hsI2 k hk)
    have hdI3 : ∀ k : Nat, ¬ g_sc k → I3 k = I2 k := fun k hk => (hfI3 k (fun q => hk (by omega))).trans (hdI2 k hk)
    refine g_aldn hc dX12_advice_23 rfl ?_
    refine g_getRk hc lk_X12_60 ca_0 (rc_0_6 hR) dX12_advice_24 ?_
    refine g_iload_n hc dX12_advice_27 rfl ?_
    refine g_V1r hc (c_X11_bestBranch w hR hlb hI hsI3 hxI3 hC hVI3 (by omega) (by omega)) my_X11_bestBranch mv_X11_bestBranch ca_683 rfl rfl lm_X12_238 rfl (by decide) (Nat.le_of_ble_eq_true rfl) hm dX12_advice_28 ?_
    refine g_iret hc hm dX12_advice_31 ?_
    exact g_relE (by rw [if_pos (by omega)]) hdI3 hxI3
  · skip
    refine g_iconst hc dX12_advice_14 ?_
    refine g_iret hc hm dX12_advice_15 ?_
    exact g_relE (by rw [if_neg (by omega)]) hdI2 hxI2
set_option maxHeartbeats 4000000 in
set_option maxRecDepth 100000 in
/-- X12_regret -/
theorem c_X12_regret (w : g_W) {I : g_I} {J : g_J} {R : g_R} {lb tx : Nat} (hR : g_rf w R lb tx) (hlb : g_life lb) {I2 : g_I} (hI : ∀ k j, g32 (I k j)) (hsI2 : g_off I I2) (hxI2 : ∀ k j, g32 (I2 k j)) (hC : g_cin I lb) (hTb : I 0 12 = -1 ∨ (0 ≤ I 0 12 ∧ I 0 12 ≤ 2)) {s f : Int} (g1 : g32 s) (g2 : g32 f) : g_Met w g_n I2 J R yX12_regret cX12_regret 4 (some .int) 6 0 0 [(gvr w 0), (gvI s), (gvI f)] (fun rr nn II JJ RR => g_rel w (some (gvI (if ((0 ≤ s ∧ s < I lb 0) ∧ (0 ≤ f ∧ f < I lb 1)) ∧ ¬ g_stp I lb s f = -1 then q_rg I lb f (q_bo I lb s f) else -1))) g_sc I2 J R rr nn II JJ RR) := by
  refine g_intro (own := RX12) [some (gvr w 0), some (gvI s), some (gvI f), none] (by decide +kernel) rfl (by decide) (Nat.le_of_ble_eq_true rfl) rfl (fun i v hv => g_args 1 i v hv rfl) (fun x hc hm => ?_)
  have hL := hC.1
  obtain ⟨hn0, hn1, hLs, hLf⟩ := id hL
  obtain ⟨-, hC1, hC2, hC3, hC4, hC5, hC6, hC7⟩ := id hC
  have hlb5 := hlb
  unfold g_life at hlb5
  have hdI2 : ∀ k : Nat, ¬ g_sc k → I2 k = I2 k := fun _ _ => rfl
  refine g_aldn hc dX12_regret_0 rfl ?_
  refine g_getRk hc lk_X12_51 ca_0 (rc_0_5 hR) dX12_regret_1 ?_
  refine g_getRvk hc lk_X12_118 ca_548 (rc_548_3 hR) dX12_regret_4 ?_
  refine g_iload_n hc dX12_regret_7 rfl ?_
  refine g_V1r hc (c_X4_hasLeaf w hR hxI2 hlb (by first | exact hI _ _ | exact hxI2 _ _ | exact hIa _ _ | exact hIb _ _ | exact g_b32 | exact g_and32 | assumption | exact ⟨by omega, by omega⟩)) my_X4_hasLeaf mv_X4_hasLeaf (la_0 hlb) rfl rfl lm_X12_125 rfl (by decide) (Nat.le_of_ble_eq_true rfl) hm dX12_regret_8 ?_
  rw [show I2 (lb) 0 = I (lb) 0 from by rw [hsI2 _ (g_nl hlb (by omega) (by omega))]]
  refine g_ifb_eq (tgt := 28) hc dX12_regret_11 (by decide)  (fun c1 => ?_) (fun c1 => ?_)
  · skip
    refine g_iconst hc dX12_regret_28 ?_
    refine g_iret hc hm dX12_regret_29 ?_
    exact g_relE (by rw [if_neg (by omega)]) hdI2 hxI2
  · skip
    have h1 := c1
    obtain ⟨hst, hway, -⟩ := hLs s h1.1 h1.2
    have hsp := @q_stp I lb s f
    refine g_aldn hc dX12_regret_14 rfl ?_
    refine g_getRk hc lk_X12_51 ca_0 (rc_0_5 hR) dX12_regret_15 ?_
    refine g_getRvk hc lk_X12_118 ca_548 (rc_548_3 hR) dX12_regret_18 ?_
    refine g_iload_n hc dX12_regret_21 rfl ?_
    refine g_V1r hc (c_X4_hasFork w hR hxI2 hlb (by first | exact hI _ _ | exact hxI2 _ _ | exact hIa _ _ | exact hIb _ _ | exact g_b32 | exact g_and32 | assumption | exact ⟨by omega, by omega⟩)) my_X4_hasFork mv_X4_hasFork (la_0 hlb) rfl rfl lm_X12_153 rfl (by decide) (Nat.le_of_ble_eq_true rfl) hm dX12_regret_22 ?_
    rw [show I2 (lb) 1 = I (lb) 1 from by rw [hsI2 _ (g_nl hlb (by omega) (by omega))]]
    refine g_ifb_ne (tgt := 30) hc dX12_regret_25 (by decide)  (fun c2 => ?_) (fun c2 => ?_)
    · skip
      refine g_aldn hc dX12_regret_30 rfl ?_
      refine g_getRk hc lk_X12_51 ca_0 (rc_0_5 hR) dX12_regret_31 ?_
      refine g_getRvk hc lk_X12_118 ca_548 (rc_548_3 hR) dX12_regret_34 ?_
      refine g_iload_n hc dX12_regret_37 rfl ?_
      refine g_iload_n hc dX12_regret_38 rfl ?_
      refine g_V2r hc (c_X4_stepAt w hR hxI2 hlb (by omega) (by first | omega | (rw [hsI2 _ (g_nl hlb (by omega) (by omega))]; omega)) (by first | exact hI _ _ | exact hxI2 _ _ | exact hIa _ _ | exact hIb _ _ | exact g_b32 | exact g_and32 | assumption | exact ⟨by omega, by omega⟩)) my_X4_stepAt mv_X4_stepAt (la_0 hlb) rfl rfl lm_X12_241 rfl (by decide) (Nat.le_of_ble_eq_true rfl) hm dX12_regret_39 ?_
      rw [show g_stp I2 lb s f = g_stp I lb s f from g_stp_cg hsI2 hlb (by omega)]
      refine g_istore_3 hc dX12_regret_42 rfl ?_
      refine g_iload_n hc dX12_regret_43 rfl ?_
      refine g_iconst hc dX12_regret_44 ?_
      refine g_icmp_ne (tgt := 50) hc dX12_regret_45 (by decide) (by rcases hsp with z | z; exact ⟨by omega, by omega⟩; exact ⟨by omega, by omega⟩) (by exact ⟨by decide, by decide⟩) (fun c3 => ?_) (fun c3 => ?_)
      · skip
        have hsn : ¬ g_stp I lb s f = -1 := c3
        have hq9 := hsp.resolve_left (fun z => hsn z.1)
        refine g_aldn hc dX12_regret_50 rfl ?_
        refine g_getRk hc lk_X12_60 ca_0 (rc_0_6 hR) dX12_regret_51 ?_
        refine g_V0 hc (c_X11_reckon w hR hlb hI hsI2 hxI2 hC) my_X11_reckon mv_X11_reckon ca_683 rfl rfl lm_X12_230 rfl (by decide) (Nat.le_of_ble_eq_true rfl) hm dX12_regret_54 (fun r3 n3 I3 J3 R3 hp3 => ?_)
        obtain ⟨⟨rfl, rfl, hfI3, hxI3, rfl, rfl⟩, hVI3⟩ := hp3
        have hsI3 : g_off I I3 := fun k hk => (hfI3 k (fun q => hk (by omega))).trans (hsI2 k hk)
        have hdI3 : ∀ k : Nat, ¬ g_sc k → I3 k = I2 k := fun k hk => (hfI3 k (fun q => hk (by omega))).trans (hdI2 k hk)
        refine g_aldn hc dX12_regret_57 rfl ?_
        refine g_getRk hc lk_X12_60 ca_0 (rc_0_6 hR) dX12_regret_58 ?_
        refine g_iload_n hc dX12_regret_61 rfl ?_
        refine g_iload_n hc dX12_regret_62 rfl ?_
        refine g_V2r hc (c_X11_regretAt w hR hlb hI hsI3 hxI3 hC hVI3 (by omega) (by omega)) my_X11_regretAt mv_X11_regretAt ca_683 rfl rfl lm_X12_244 rfl (by decide) (Nat.le_of_ble_eq_true rfl) hm dX12_regret_63 ?_
        refine g_iret hc hm dX12_regret_66 ?_
        exact g_relE (by rw [if_pos ⟨⟨by omega, by omega⟩, hsn⟩, q_bo, if_neg hsn]; exact (q_rg_s hq9.2.2).symm) hdI3 hxI3
      · skip
        refine g_iconst hc dX12_regret_48 ?_
        refine g_iret hc hm dX12_regret_49 ?_
        exact g_relE (by rw [if_neg (by omega)]) hdI2 hxI2
    · skip
      refine g_iconst hc dX12_regret_28 ?_
      refine g_iret hc hm dX12_regret_29 ?_
      exact g_relE (by rw [if_neg (by omega)]) hdI2 hxI2
set_option maxHeartbeats 4000000 in
set_option maxRecDepth 100000 in
/-- X12_sore -/
theorem c_X12_sore (w : g_W) {I : g_I} {J : g_J} {R : g_R} {lb tx : Nat} (hR : g_rf w R lb tx) (hlb : g_life lb) {I2 : g_I} (hI : ∀ k j, g32 (I k j)) (hsI2 : g_off I I2) (hxI2 : ∀ k j, g32 (I2 k j)) (hC : g_cin I lb) (hTb : I 0 12 = -1 ∨ (0 ≤ I 0 12 ∧ I 0 12 ≤ 2)) {s k : Int} (g1 : g32 s) (g2 : g32 k) : g_Met w g_n I2 J R yX12_sore cX12_sore 3 (some .int) 6 0 0 [(gvr w 0), (gvI s), (gvI k)] (fun rr nn II JJ RR => g_rel w (some (gvI (if (0 ≤ s ∧ s < I lb 0) ∧ 0 ≤ k ∧ k ≤ 1 then (if k = 0 then g_sor I lb s else g_rgs I lb s) else -2000000000))) g_sc I2 J R rr nn II JJ RR) := by
  refine g_intro (own := RX12) [some (gvr w 0), some (gvI s), some (gvI k)] (by decide +kernel) rfl (by decide) (Nat.le_of_ble_eq_true rfl) rfl (fun i v hv => g_args 0 i v hv rfl) (fun x hc hm => ?_)
  have hL := hC.1
  obtain ⟨hn0, hn1, hLs, hLf⟩ := id hL
  obtain ⟨-, hC1, hC2, hC3, hC4, hC5, hC6, hC7⟩ := id hC
  have hlb5 := hlb
  unfold g_life at hlb5
  have hdI2 : ∀ k : Nat, ¬ g_sc k → I2 k = I2 k := fun _ _ => rfl
  refine g_aldn hc dX12_sore_0 rfl ?_
  refine g_getRk hc lk_X12_51 ca_0 (rc_0_5 hR) dX12_sore_1 ?_
  refine g_getRvk hc lk_X12_118 ca_548 (rc_548_3 hR) dX12_sore_4 ?_
  refine g_iload_n hc dX12_sore_7 rfl ?_
  refine g_V1r hc (c_X4_hasLeaf w hR hxI2 hlb (by first | exact hI _ _ | exact hxI2 _ _ | exact hIa _ _ | exact hIb _ _ | exact g_b32 | exact g_and32 | assumption | exact ⟨by omega, by omega⟩)) my_X4_hasLeaf mv_X4_hasLeaf (la_0 hlb) rfl rfl lm_X12_125 rfl (by decide) (Nat.le_of_ble_eq_true rfl) hm dX12_sore_8 ?_
  rw [show I2 (lb) 0 = I (lb) 0 from by rw [hsI2 _ (g_nl hlb (by omega) (by omega))]]
  refine g_ifb_eq (tgt := 23) hc dX12_sore_11 (by decide)  (fun c1 => ?_) (fun c1 => ?_)
  · skip
    refine g_ldc (k := (-2000000000)) hc dX12_sore_23 _ lc_X12_223 (by decide +kernel) ?_
    refine g_iret hc hm dX12_sore_25 ?_
    exact g_relE (by rw [if_neg (by omega)]) hdI2 hxI2
  · skip
    refine g_iload_n hc dX12_sore_14 rfl ?_
    refine g_if_lt (tgt := 23) hc dX12_sore_15 (by decide) (by first | exact hI _ _ | exact hxI2 _ _ | exact hIa _ _ | exact hIb _ _ | exact g_b32 | exact g_and32 | assumption | exact ⟨by omega, by omega⟩) (fun c2 => ?_) (fun c2 => ?_)
    · skip
      refine g_ldc (k := (-2000000000)) hc dX12_sore_23 _ lc_X12_223 (by decide +kernel) ?_
      refine g_iret hc hm dX12_sore_25 ?_
      exact g_relE (by rw [if_neg (by omega)]) hdI2 hxI2
    · skip
      refine g_iload_n hc dX12_sore_18 rfl ?_
      refine g_iconst hc dX12_sore_19 ?_
      refine g_icmp_le (tgt := 26) hc dX12_sore_20 (by decide) (by first | exact hI _ _ | exact hxI2 _ _ | exact hIa _ _ | exact hIb _ _ | exact g_b32 | exact g_and32 | assumption | exact ⟨by omega, by omega⟩) (by first | exact hI _ _ | exact hxI2 _ _ | exact hIa _ _ | exact hIb _ _ | exact g_b32 | exact g_and32 | assumption | exact ⟨by omega, by omega⟩) (fun c3 => ?_) (fun c3 => ?_)
      · skip
        refine g_aldn hc dX12_sore_26 rfl ?_
        refine g_getRk hc lk_X12_60 ca_0 (rc_0_6 hR) dX12_sore_27 ?_
        refine g_V0 hc (c_X11_reckon w hR hlb hI hsI2 hxI2 hC) my_X11_reckon mv_X11_reckon ca_683 rfl rfl lm_X12_230 rfl (by decide) (Nat.le_of_ble_eq_true rfl) hm dX12_sore_30 (fun r3 n3 I3 J3 R3 hp3 => ?_)
        obtain ⟨⟨rfl, rfl, hfI3, hxI3, rfl, rfl⟩, hVI3⟩ := hp3
        have hsI3 : g_off I I3 := fun k hk => (hfI3 k (fun q => hk (by omega))).trans (hsI2 k hk)
        have hdI3 : ∀ k : Nat, ¬ g_sc k → I3 k = I2 k := fun k hk => (hfI3 k (fun q => hk (by omega))).trans (hdI2 k hk)
        refine g_iload_n hc dX12_sore_33 rfl ?_
        refine g_if_ne (tgt := 48) hc dX12_sore_34 (by decide) (by first | exact hI _ _ | exact hxI2 _ _ | exact hIa _ _ | exact hIb _ _ | exact g_b32 | exact g_and32 | assumption | exact ⟨by omega, by omega⟩) (fun c4 => ?_) (fun c4 => ?_)
        · skip
          refine g_aldn hc dX12_sore_48 rfl ?_
          refine g_getRk hc lk_X12_60 ca_0 (rc_0_6 hR) dX12_sore_49 ?_
          refine g_iload_n hc dX12_sore_52 rfl ?_
          refine g_V1r hc (c_X11_regrets w hR hlb hI hsI3 hxI3 hC hVI3 (by omega)) my_X11_regrets mv_X11_regrets ca_683 rfl rfl lm_X12_250 rfl (by decide) (Nat.le_of_ble_eq_true rfl) hm dX12_sore_53 ?_
          refine g_iret hc hm dX12_sore_56 ?_
          exact g_relE (by rw [if_pos (by omega), if_neg (by omega)]) hdI3 hxI3
        · skip
          refine g_aldn hc dX12_sore_37 rfl ?_
          refine g_getRk hc lk_X12_60 ca_0 (rc_0_6 hR) dX12_sore_38 ?_
          refine g_iload_n hc dX12_sore_41 rfl ?_
          refine g_V1r hc (c_X11_sorest w hR hlb hI hsI3 hxI3 hC hVI3 (by omega)) my_X11_sorest mv_X11_sorest ca_683 rfl rfl lm_X12_247 rfl (by decide) (Nat.le_of_ble_eq_true rfl) hm dX12_sore_42 ?_
          refine g_goto (tgt := 56) hc dX12_sore_45 (by decide) ?_
          refine g_iret hc hm dX12_sore_56 ?_
          exact g_relE (by rw [if_pos (by omega), if_pos (by omega)]) hdI3 hxI3
      · skip
        refine g_ldc (k := (-2000000000)) hc dX12_sore_23 _ lc_X12_223 (by decide +kernel) ?_
        refine g_iret hc hm dX12_sore_25 ?_
        exact g_relE (by rw [if_neg (by omega)]) hdI2 hxI2
set_option maxHeartbeats 4000000 in
set_option maxRecDepth 100000 in
/-- X12_apology -/
theorem c_X12_apology (w : g_W) {I : g_I} {J : g_J} {R : g_R} {lb tx : Nat} (hR : g_rf w R lb tx) (hlb : g_life lb) {I2 : g_I} (hI : ∀ k j, g32 (I k j)) (hsI2 : g_off I I2) (hxI2 : ∀ k j, g32 (I2 k j)) (hC : g_cin I lb) (hTb : I 0 12 = -1 ∨ (0 ≤ I 0 12 ∧ I 0 12 ≤ 2)) {s t : Int} (g1 : g32 s) (g2 : g32 t) (h77 : I lb 1 = 0 → I lb 0 ≤ 1) : g_Met w g_n I2 J R yX12_apology cX12_apology 3 (some .int) 6 0 0 [(gvr w 0), (gvI s), (gvI t)] (fun rr nn II JJ RR => g_rel w (some (gvI (if ((0 ≤ s ∧ s < I lb 0) ∧ 0 ≤ t ∧ t < I lb 0) ∧ ¬ s = t then g_apo I lb s t else -2000000000))) g_sc I2 J R rr nn II JJ RR) := by
  refine g_intro (own := RX12) [some (gvr w 0), some (gvI s), some (gvI t)] (by decide +kernel) rfl (by decide) (Nat.le_of_ble_eq_true rfl) rfl (fun i v hv => g_args 0 i v hv rfl) (fun x hc hm => ?_)
  have hL := hC.1
  obtain ⟨hn0, hn1, hLs, hLf⟩ := id hL
  obtain ⟨-, hC1, hC2, hC3, hC4, hC5, hC6, hC7⟩ := id hC
  have hlb5 := hlb
  unfold g_life at hlb5
  have hdI2 : ∀ k : Nat, ¬ g_sc k → I2 k = I2 k := fun _ _ => rfl
  refine g_aldn hc dX12_apology_0 rfl ?_
  refine g_iload_n hc dX12_apology_1 rfl ?_
  refine g_iload_n hc dX12_apology_2 rfl ?_
  refine g_V2r hc (c_X12_differentSelves w hR hlb hI hsI2 hxI2 hC hTb (by first | assumption | exact hI _ _ | exact ⟨by omega, by omega⟩) (by first | assumption | exact hI _ _ | exact ⟨by omega, by omega⟩)) my_X12_differentSelves mv_X12_differentSelves ca_0 rfl rfl lm_X12_194 rfl (by decide) (Nat.le_of_ble_eq_true rfl) hm dX12_apology_3 ?_
  refine g_ifb_ne (tgt := 12) hc dX12_apology_6 (by decide)  (fun c1 => ?_) (fun c1 => ?_)
  · skip
    have h17 : 0 < I lb 1 := by
      by_cases z : I lb 1 = 0
      · have := h77 z
        omega
      · omega
    refine g_aldn hc dX12_apology_12 rfl ?_
    refine g_getRk hc lk_X12_60 ca_0 (rc_0_6 hR) dX12_apology_13 ?_
    refine g_V0 hc (c_X11_reckon w hR hlb hI hsI2 hxI2 hC) my_X11_reckon mv_X11_reckon ca_683 rfl rfl lm_X12_230 rfl (by decide) (Nat.le_of_ble_eq_true rfl) hm dX12_apology_16 (fun r3 n3 I3 J3 R3 hp3 => ?_)
    obtain ⟨⟨rfl, rfl, hfI3, hxI3, rfl, rfl⟩, hVI3⟩ := hp3
    have hsI3 : g_off I I3 := fun k hk => (hfI3 k (fun q => hk (by omega))).trans (hsI2 k hk)
    have hdI3 : ∀ k : Nat, ¬ g_sc k → I3 k = I2 k := fun k hk => (hfI3 k (fun q => hk (by omega))).trans (hdI2 k hk)
    refine g_aldn hc dX12_apology_19 rfl ?_
    refine g_getRk hc lk_X12_60 ca_0 (rc_0_6 hR) dX12_apology_20 ?_
    refine g_iload_n hc dX12_apology_23 rfl ?_
    refine g_iload_n hc dX12_apology_24 rfl ?_
    refine g_V2r hc (c_X11_lead w hR hlb hI hsI3 hxI3 hC hVI3 (by omega) (by omega) (by omega)) my_X11_lead mv_X11_lead ca_683 rfl rfl lm_X12_253 rfl (by decide) (Nat.le_of_ble_eq_true rfl) hm dX12_apology_25 ?_
    refine g_iret hc hm dX12_apology_28 ?_
    exact g_relE (by rw [if_pos (by omega)]) hdI3 hxI3
  · skip
    refine g_ldc (k := (-2000000000)) hc dX12_apology_9 _ lc_X12_223 (by decide +kernel) ?_
    refine g_iret hc hm dX12_apology_11 ?_
    exact g_relE (by rw [if_neg (by omega)]) hdI2 hxI2
set_option maxHeartbeats 4000000 in
set_option maxRecDepth 100000 in
/-- X12_demand -/
theorem c_X12_demand (w : g_W) {I : g_I} {J : g_J} {R : g_R} {lb tx : Nat} (hR : g_rf w R lb tx) (hlb : g_life lb) {I2 : g_I} (hI : ∀ k j, g32 (I k j)) (hsI2 : g_off I I2) (hxI2 : ∀ k j, g32 (I2 k j)) (hC : g_cin I lb) (hTb : I 0 12 = -1 ∨ (0 ≤ I 0 12 ∧ I 0 12 ≤ 2)) {s : Int} (g1 : g32 s) : g_Met w g_n I2 J R yX12_demand cX12_demand 2 (some .int) 5 0 0 [(gvr w 0), (gvI s)] (fun rr nn II JJ RR => g_rel w (some (gvI (if (0 ≤ s ∧ s < I lb 0) ∧ g_thr I lb s = true then q_dm I lb s else -1))) g_sc I2 J R rr nn II JJ RR) := by
  refine g_intro (own := RX12) [some (gvr w 0), some (gvI s)] (by decide +kernel) rfl (by decide) (Nat.le_of_ble_eq_true rfl) rfl (fun i v hv => g_args 0 i v hv rfl) (fun x hc hm => ?_)
  have hL := hC.1
  obtain ⟨hn0, hn1, hLs, hLf⟩ := id hL
  obtain ⟨-, hC1, hC2, hC3, hC4, hC5, hC6, hC7⟩ := id hC
  have hlb5 := hlb
  unfold g_life at hlb5
  have hdI2 : ∀ k : Nat, ¬ g_sc k → I2 k = I2 k := fun _ _ => rfl
  refine g_aldn hc dX12_demand_0 rfl ?_
  refine g_getRk hc lk_X12_51 ca_0 (rc_0_5 hR) dX12_demand_1 ?_
  refine g_getRvk hc lk_X12_118 ca_548 (rc_548_3 hR) dX12_demand_4 ?_
  refine g_iload_n hc dX12_demand_7 rfl ?_
  refine g_V1r hc (c_X4_hasLeaf w hR hxI2 hlb (by first | exact hI _ _ | exact hxI2 _ _ | exact hIa _ _ | exact hIb _ _ | exact g_b32 | exact g_and32 | assumption | exact ⟨by omega, by omega⟩)) my_X4_hasLeaf mv_X4_hasLeaf (la_0 hlb) rfl rfl lm_X12_125 rfl (by decide) (Nat.le_of_ble_eq_true rfl) hm dX12_demand_8 ?_
  rw [show I2 (lb) 0 = I (lb) 0 from by rw [hsI2 _ (g_nl hlb (by omega) (by omega))]]
  refine g_ifb_eq (tgt := 25) hc dX12_demand_11 (by decide)  (fun c1 => ?_) (fun c1 => ?_)
  · skip
    have hng : ¬ ((0 ≤ s ∧ s < I lb 0) ∧ g_thr I lb s = true) := fun z => by omega
    refine g_iconst hc dX12_demand_25 ?_
    refine g_iret hc hm dX12_demand_26 ?_
    exact g_relE (by rw [if_neg hng]) hdI2 hxI2
  · skip
    refine g_aldn hc dX12_demand_14 rfl ?_
    refine g_getRk hc lk_X12_51 ca_0 (rc_0_5 hR) dX12_demand_15 ?_
    refine g_iload_n hc dX12_demand_18 rfl ?_
    refine g_V1r hc (c_X7_isThere w hR hxI2 hlb (g_lok_cg hsI2 hlb hL) (by first | omega | (rw [hsI2 _ (g_nl hlb (by omega) (by omega))]; omega))) my_X7_isThere mv_X7_isThere ca_548 rfl rfl lm_X12_136 rfl (by decide) (Nat.le_of_ble_eq_true rfl) hm dX12_demand_19 ?_
    rw [show g_thr I2 lb s = g_thr I lb s from g_thr_cg hsI2 hlb (by omega)]
    refine g_ifb_ne (tgt := 27) hc dX12_demand_22 (by decide)  (fun c2 => ?_) (fun c2 => ?_)
    · skip
      have hpg : ((0 ≤ s ∧ s < I lb 0) ∧ g_thr I lb s = true) := ⟨by omega, c2⟩
      refine g_aldn hc dX12_demand_27 rfl ?_
      refine g_getRk hc lk_X12_69 ca_0 (rc_0_7 hR) dX12_demand_28 ?_
      refine g_iload_n hc dX12_demand_31 rfl ?_
      refine g_V1r hc (c_X1_demandOf w hR hlb hI hsI2 hxI2 hC (by omega)) my_X1_demandOf mv_X1_demandOf ca_686 rfl rfl lm_X12_262 rfl (by decide) (Nat.le_of_ble_eq_true rfl) hm dX12_demand_32 ?_
      refine g_iret hc hm dX12_demand_35 ?_
      exact g_relE (by rw [if_pos hpg, q_dm_dem hC6, if_pos hpg.2]) hdI2 hxI2
    · skip
      have hng : ¬ ((0 ≤ s ∧ s < I lb 0) ∧ g_thr I lb s = true) := fun z => c2 z.2
      refine g_iconst hc dX12_demand_25 ?_
      refine g_iret hc hm dX12_demand_26 ?_
      exact g_relE (by rw [if_neg hng]) hdI2 hxI2
set_option maxHeartbeats 4000000 in
set_option maxRecDepth 100000 in
/-- X12_telling -/
theorem c_X12_telling (w : g_W) {I : g_I} {J : g_J} {R : g_R} {lb tx : Nat} (hR : g_rf w R lb tx) (hlb : g_life lb) {I2 : g_I} (hI : ∀ k j, g32 (I k j)) (hsI2 : g_off I I2) (hxI2 : ∀ k j, g32 (I2 k j)) (hC : g_cin I lb) (hTb : I 0 12 = -1 ∨ (0 ≤ I 0 12 ∧ I 0 12 ≤ 2)) {s : Int} (g1 : g32 s) : g_Met w g_n I2 J R yX12_telling cX12_telling 2 (some .int) 5 0 0 [(gvr w 0), (gvI s)] (fun rr nn II JJ RR => g_rel w (some (gvI (if (0 ≤ s ∧ s < I lb 0) ∧ g_thr I lb s = true then g_tel I lb s else -1))) g_sc I2 J R rr nn II JJ RR) := by
  refine g_intro (own := RX12) [some (gvr w 0), some (gvI s)] (by decide +kernel) rfl (by decide) (Nat.le_of_ble_eq_true rfl) rfl (fun i v hv => g_args 0 i v hv rfl) (fun x hc hm => ?_)
  have hL := hC.1
  obtain ⟨hn0, hn1, hLs, hLf⟩ := id hL
  obtain ⟨-, hC1, hC2, hC3, hC4, hC5, hC6, hC7⟩ := id hC
  have hlb5 := hlb
  unfold g_life at hlb5
  have hdI2 : ∀ k : Nat, ¬ g_sc k → I2 k = I2 k := fun _ _ => rfl
  refine g_aldn hc dX12_telling_0 rfl ?_
  refine g_getRk hc lk_X12_51 ca_0 (rc_0_5 hR) dX12_telling_1 ?_
  refine g_getRvk hc lk_X12_118 ca_548 (rc_548_3 hR) dX12_telling_4 ?_
  refine g_iload_n hc dX12_telling_7 rfl ?_
  refine g_V1r hc (c_X4_hasLeaf w hR hxI2 hlb (by first | exact hI _ _ | exact hxI2 _ _ | exact hIa _ _ | exact hIb _ _ | exact g_b32 | exact g_and32 | assumption | exact ⟨by omega, by omega⟩)) my_X4_hasLeaf mv_X4_hasLeaf (la_0 hlb) rfl rfl lm_X12_125 rfl (by decide) (Nat.le_of_ble_eq_true rfl) hm dX12_telling_8 ?_
  rw [show I2 (lb) 0 = I (lb) 0 from by rw [hsI2 _ (g_nl hlb (by omega) (by omega))]]
  refine g_ifb_eq (tgt := 25) hc dX12_telling_11 (by decide)  (fun c1 => ?_) (fun c1 => ?_)
  · skip
    have hng : ¬ ((0 ≤ s ∧ s < I lb 0) ∧ g_thr I lb s = true) := fun z => by omega
    refine g_iconst hc dX12_telling_25 ?_
    refine g_iret hc hm dX12_telling_26 ?_
    exact g_relE (by rw [if_neg hng]) hdI2 hxI2
  · skip
    refine g_aldn hc dX12_telling_14 rfl ?_
    refine g_getRk hc lk_X12_51 ca_0 (rc_0_5 hR) dX12_telling_15 ?_
    refine g_iload_n hc dX12_telling_18 rfl ?_
    refine g_V1r hc (c_X7_isThere w hR hxI2 hlb (g_lok_cg hsI2 hlb hL) (by first | omega | (rw [hsI2 _ (g_nl hlb (by omega) (by omega))]; omega))) my_X7_isThere mv_X7_isThere ca_548 rfl rfl lm_X12_136 rfl (by decide) (Nat.le_of_ble_eq_true rfl) hm dX12_telling_19 ?_
    rw [show g_thr I2 lb s = g_thr I lb s from g_thr_cg hsI2 hlb (by omega)]
    refine g_ifb_ne (tgt := 27) hc dX12_telling_22 (by decide)  (fun c2 => ?_) (fun c2 => ?_)
    · skip
      have hpg : ((0 ≤ s ∧ s < I lb 0) ∧ g_thr I lb s = true) := ⟨by omega, c2⟩
      refine g_aldn hc dX12_telling_27 rfl ?_
      refine g_getRk hc lk_X12_76 ca_0 (rc_0_8 hR) dX12_telling_28 ?_
      refine g_iload_n hc dX12_telling_31 rfl ?_
      refine g_V1r hc (c_X2_fewestTelling w hR hlb hI hsI2 hxI2 hC (by omega)) my_X2_fewestTelling mv_X2_fewestTelling ca_697 rfl rfl lm_X12_291 rfl (by decide) (Nat.le_of_ble_eq_true rfl) hm dX12_telling_32 ?_
      refine g_iret hc hm dX12_telling_35 ?_
      exact g_relE (by rw [if_pos hpg]) hdI2 hxI2
    · skip
      have hng : ¬ ((0 ≤ s ∧ s < I lb 0) ∧ g_thr I lb s = true) := fun z => c2 z.2
      refine g_iconst hc dX12_telling_25 ?_
      refine g_iret hc hm dX12_telling_26 ?_
      exact g_relE (by rw [if_neg hng]) hdI2 hxI2
set_option maxHeartbeats 4000000 in
set_option maxRecDepth 100000 in
/-- X12_share -/
theorem c_X12_share (w : g_W) {I : g_I} {J : g_J} {R : g_R} {lb tx : Nat} (hR : g_rf w R lb tx) (hlb : g_life lb) {I2 : g_I} (hI : ∀ k j, g32 (I k j)) (hsI2 : g_off I I2) (hxI2 : ∀ k j, g32 (I2 k j)) (hC : g_cin I lb) (hTb : I 0 12 = -1 ∨ (0 ≤ I 0 12 ∧ I 0 12 ≤ 2)) {s p : Int} (g1 : g32 s) (g2 : g32 p) : g_Met w g_n I2 J R yX12_share cX12_share 3 (some .int) 8 0 0 [(gvr w 0), (gvI s), (gvI p)] (fun rr nn II JJ RR => g_rel w (some (gvI (if (0 ≤ s ∧ s < I lb 0) ∧ g_thr I lb s = true ∧ 0 ≤ p ∧ p ≤ 9999 then g_sho I lb s p else -1))) g_sc I2 J R rr nn II JJ RR) := by
  refine g_intro (own := RX12) [some (gvr w 0), some (gvI s), some (gvI p)] (by decide +kernel) rfl (by decide) (Nat.le_of_ble_eq_true rfl) rfl (fun i v hv => g_args 0 i v hv rfl) (fun x hc hm => ?_)
  have hL := hC.1
  obtain ⟨hn0, hn1, hLs, hLf⟩ := id hL
  obtain ⟨-, hC1, hC2, hC3, hC4, hC5, hC6, hC7⟩ := id hC
  have hlb5 := hlb
  unfold g_life at hlb5
  have hdI2 : ∀ k : Nat, ¬ g_sc k → I2 k = I2 k := fun _ _ => rfl
  refine g_aldn hc dX12_share_0 rfl ?_
  refine g_getRk hc lk_X12_51 ca_0 (rc_0_5 hR) dX12_share_1 ?_
  refine g_getRvk hc lk_X12_118 ca_548 (rc_548_3 hR) dX12_share_4 ?_
  refine g_iload_n hc dX12_share_7 rfl ?_
  refine g_V1r hc (c_X4_hasLeaf w hR hxI2 hlb (by first | exact hI _ _ | exact hxI2 _ _ | exact hIa _ _ | exact hIb _ _ | exact g_b32 | exact g_and32 | assumption | exact ⟨by omega, by omega⟩)) my_X4_hasLeaf mv_X4_hasLeaf (la_0 hlb) rfl rfl lm_X12_125 rfl (by decide) (Nat.le_of_ble_eq_true rfl) hm dX12_share_8 ?_
  rw [show I2 (lb) 0 = I (lb) 0 from by rw [hsI2 _ (g_nl hlb (by omega) (by omega))]]
  refine g_ifb_eq (tgt := 33) hc dX12_share_11 (by decide)  (fun c1 => ?_) (fun c1 => ?_)
  · skip
    have hng : ¬ ((0 ≤ s ∧ s < I lb 0) ∧ g_thr I lb s = true ∧ 0 ≤ p ∧ p ≤ 9999) := fun z => by omega
    refine g_iconst hc dX12_share_33 ?_
    refine g_iret hc hm dX12_share_34 ?_
    exact g_relE (by rw [if_neg hng]) hdI2 hxI2
  · skip
    refine g_aldn hc dX12_share_14 rfl ?_
    refine g_getRk hc lk_X12_51 ca_0 (rc_0_5 hR) dX12_share_15 ?_
    refine g_iload_n hc dX12_share_18 rfl ?_
    refine g_V1r hc (c_X7_isThere w hR hxI2 hlb (g_lok_cg hsI2 hlb hL) (by first | omega | (rw [hsI2 _ (g_nl hlb (by omega) (by omega))]; omega))) my_X7_isThere mv_X7_isThere ca_548 rfl rfl lm_X12_136 rfl (by decide) (Nat.le_of_ble_eq_true rfl) hm dX12_share_19 ?_
    rw [show g_thr I2 lb s = g_thr I lb s from g_thr_cg hsI2 hlb (by omega)]
    refine g_ifb_eq (tgt := 33) hc dX12_share_22 (by decide)  (fun c2 => ?_) (fun c2 => ?_)
    · skip
      have hng : ¬ ((0 ≤ s ∧ s < I lb 0) ∧ g_thr I lb s = true ∧ 0 ≤ p ∧ p ≤ 9999) := fun z => c2 z.2.1
      refine g_iconst hc dX12_share_33 ?_
      refine g_iret hc hm dX12_share_34 ?_
      exact g_relE (by rw [if_neg hng]) hdI2 hxI2
    · skip
      have hth := c2
      refine g_aldn hc dX12_share_25 rfl ?_
      refine g_iload_n hc dX12_share_26 rfl ?_
      refine g_V1r hc (c_X12_isPot w hR hlb hI hsI2 hxI2 hC hTb (by first | assumption | exact hI _ _ | exact ⟨by omega, by omega⟩)) my_X12_isPot mv_X12_isPot ca_0 rfl rfl lm_X12_256 rfl (by decide) (Nat.le_of_ble_eq_true rfl) hm dX12_share_27 ?_
      refine g_ifb_ne (tgt := 35) hc dX12_share_30 (by decide)  (fun c3 => ?_) (fun c3 => ?_)
      · skip
        have hpg : ((0 ≤ s ∧ s < I lb 0) ∧ g_thr I lb s = true ∧ 0 ≤ p ∧ p ≤ 9999) := ⟨by omega, hth, c3⟩
        refine g_aldn hc dX12_share_35 rfl ?_
        refine g_getRk hc lk_X12_69 ca_0 (rc_0_7 hR) dX12_share_36 ?_
        refine g_iload_n hc dX12_share_39 rfl ?_
        refine g_iload_n hc dX12_share_40 rfl ?_
        refine g_V2 hc (c_X1_shareOf w hR hlb hI hsI2 hxI2 hC (by omega) (by omega)) my_X1_shareOf mv_X1_shareOf ca_686 rfl rfl lm_X12_259 rfl (by decide) (Nat.le_of_ble_eq_true rfl) hm dX12_share_41 (fun r3 n3 I3 J3 R3 hp3 => ?_)
        obtain ⟨rfl, rfl, hfI3, hxI3, rfl, rfl⟩ := hp3
        have hsI3 : g_off I I3 := fun k hk => (hfI3 k (fun q => hk (by omega))).trans (hsI2 k hk)
        have hdI3 : ∀ k : Nat, ¬ g_sc k → I3 k = I2 k := fun k hk => (hfI3 k (fun q => hk (by omega))).trans (hdI2 k hk)
        refine g_iret hc hm dX12_share_44 ?_
        exact g_relE (by rw [if_pos hpg]) hdI3 hxI3
      · skip
        have hng : ¬ ((0 ≤ s ∧ s < I lb 0) ∧ g_thr I lb s = true ∧ 0 ≤ p ∧ p ≤ 9999) := fun z => c3 z.2.2
        refine g_iconst hc dX12_share_33 ?_
        refine g_iret hc hm dX12_share_34 ?_
        exact g_relE (by rw [if_neg hng]) hdI2 hxI2
set_option maxHeartbeats 4000000 in
set_option maxRecDepth 100000 in
/-- X12_terms -/
theorem c_X12_terms (w : g_W) {I : g_I} {J : g_J} {R : g_R} {lb tx : Nat} (hR : g_rf w R lb tx) (hlb : g_life lb) {I2 : g_I} (hI : ∀ k j, g32 (I k j)) (hsI2 : g_off I I2) (hxI2 : ∀ k j, g32 (I2 k j)) (hC : g_cin I lb) (hTb : I 0 12 = -1 ∨ (0 ≤ I 0 12 ∧ I 0 12 ≤ 2)) {s : Int} (g1 : g32 s) : g_Met w g_n I2 J R yX12_terms cX12_terms 2 (some .int) 6 0 0 [(gvr w 0), (gvI s)] (fun rr nn II JJ RR => g_rel w (some (gvI (if 0 ≤ I 0 12 ∧ 0 ≤ s ∧ s ≤ 9999 then s - g_dms I lb else -2000000000))) g_sc I2 J R rr nn II JJ RR) := by
  refine g_intro (own := RX12) [some (gvr w 0), some (gvI s)] (by decide +kernel) rfl (by decide) (Nat.le_of_ble_eq_true rfl) rfl (fun i v hv => g_args 0 i v hv rfl) (fun x hc hm => ?_)
  have hL := hC.1
  obtain ⟨hn0, hn1, hLs, hLf⟩ := id hL
  obtain ⟨-, hC1, hC2, hC3, hC4, hC5, hC6, hC7⟩ := id hC
  have hlb5 := hlb
  unfold g_life at hlb5
  have hdI2 : ∀ k : Nat, ¬ g_sc k → I2 k = I2 k := fun _ _ => rfl
  refine g_aldn hc dX12_terms_0 rfl ?_
  refine g_getIe hc lk_X12_87 ca_0 12 rfl (congrFun (hsI2 _ (by decide)) _) dX12_terms_1 ?_
  refine g_iconst hc dX12_terms_4 ?_
  refine g_icmp_eq (tgt := 16) hc dX12_terms_5 (by decide) (by first | exact hI _ _ | exact hxI2 _ _ | exact hIa _ _ | exact hIb _ _ | exact g_b32 | exact g_and32 | assumption | exact ⟨by omega, by omega⟩) (by first | exact hI _ _ | exact hxI2 _ _ | exact hIa _ _ | exact hIb _ _ | exact g_b32 | exact g_and32 | assumption | exact ⟨by omega, by omega⟩) (fun c1 => ?_) (fun c1 => ?_)
  · skip
    refine g_ldc (k := (-2000000000)) hc dX12_terms_16 _ lc_X12_223 (by decide +kernel) ?_
    refine g_goto (tgt := 30) hc dX12_terms_18 (by decide) ?_
    refine g_iret hc hm dX12_terms_30 ?_
    exact g_relE (by rw [if_neg (by omega)]) hdI2 hxI2
  · skip
    refine g_aldn hc dX12_terms_8 rfl ?_
    refine g_iload_n hc dX12_terms_9 rfl ?_
    refine g_V1r hc (c_X12_isPot w hR hlb hI hsI2 hxI2 hC hTb (by first | assumption | exact hI _ _ | exact ⟨by omega, by omega⟩)) my_X12_isPot mv_X12_isPot ca_0 rfl rfl lm_X12_256 rfl (by decide) (Nat.le_of_ble_eq_true rfl) hm dX12_terms_10 ?_
    refine g_ifb_ne (tgt := 21) hc dX12_terms_13 (by decide)  (fun c2 => ?_) (fun c2 => ?_)
    · skip
      refine g_iload_n hc dX12_terms_21 rfl ?_
      refine g_aldn hc dX12_terms_22 rfl ?_
      refine g_getRk hc lk_X12_69 ca_0 (rc_0_7 hR) dX12_terms_23 ?_
      refine g_V0 hc (c_X1_demands w hR hlb hI hsI2 hxI2 hC) my_X1_demands mv_X1_demands ca_686 rfl rfl lm_X12_265 rfl (by decide) (Nat.le_of_ble_eq_true rfl) hm dX12_terms_26 (fun r3 n3 I3 J3 R3 hp3 => ?_)
      obtain ⟨⟨rfl, rfl, hfI3, hxI3, rfl, rfl⟩, hAI3⟩ := hp3
      have hsI3 : g_off I I3 := fun k hk => (hfI3 k (fun q => hk (by omega))).trans (hsI2 k hk)
      have hdI3 : ∀ k : Nat, ¬ g_sc k → I3 k = I2 k := fun k hk => (hfI3 k (fun q => hk (by omega))).trans (hdI2 k hk)
      refine g_isub hc dX12_terms_29 ?_
      refine g_iret hc hm dX12_terms_30 ?_
      exact g_relE (by rw [if_pos (by omega)]) hdI3 hxI3
    · skip
      refine g_ldc (k := (-2000000000)) hc dX12_terms_16 _ lc_X12_223 (by decide +kernel) ?_
      refine g_goto (tgt := 30) hc dX12_terms_18 (by decide) ?_
      refine g_iret hc hm dX12_terms_30 ?_
      exact g_relE (by rw [if_neg (by omega)]) hdI2 hxI2
set_option maxHeartbeats 4000000 in
set_option maxRecDepth 100000 in
/-- X12_away -/
theorem c_X12_away (w : g_W) {I : g_I} {J : g_J} {R : g_R} {lb tx : Nat} (hR : g_rf w R lb tx) (hlb : g_life lb) {I2 : g_I} (hI : ∀ k j, g32 (I k j)) (hsI2 : g_off I I2) (hxI2 : ∀ k j, g32 (I2 k j)) (hC : g_cin I lb) (hTb : I 0 12 = -1 ∨ (0 ≤ I 0 12 ∧ I 0 12 ≤ 2)) {s : Int} (g1 : g32 s) : g_Met w g_n I2 J R yX12_away cX12_away 2 (some .int) 7 0 0 [(gvr w 0), (gvI s)] (fun rr nn II JJ RR => g_rel w (some (gvI (if 0 ≤ I 0 12 ∧ 0 ≤ s ∧ s ≤ 9999 then g_awy I lb s else -1))) g_sc I2 J R rr nn II JJ RR) := by
  refine g_intro (own := RX12) [some (gvr w 0), some (gvI s)] (by decide +kernel) rfl (by decide) (Nat.le_of_ble_eq_true rfl) rfl (fun i v hv => g_args 0 i v hv rfl) (fun x hc hm => ?_)
  have hL := hC.1
  obtain ⟨hn0, hn1, hLs, hLf⟩ := id hL
  obtain ⟨-, hC1, hC2, hC3, hC4, hC5, hC6, hC7⟩ := id hC
  have hlb5 := hlb
  unfold g_life at hlb5
  have hdI2 : ∀ k : Nat, ¬ g_sc k → I2 k = I2 k := fun _ _ => rfl
  refine g_aldn hc dX12_away_0 rfl ?_
  refine g_getIe hc lk_X12_87 ca_0 12 rfl (congrFun (hsI2 _ (by decide)) _) dX12_away_1 ?_
  refine g_iconst hc dX12_away_4 ?_
  refine g_icmp_eq (tgt := 16) hc dX12_away_5 (by decide) (by first | exact hI _ _ | exact hxI2 _ _ | exact hIa _ _ | exact hIb _ _ | exact g_b32 | exact g_and32 | assumption | exact ⟨by omega, by omega⟩) (by first | exact hI _ _ | exact hxI2 _ _ | exact hIa _ _ | exact hIb _ _ | exact g_b32 | exact g_and32 | assumption | exact ⟨by omega, by omega⟩) (fun c1 => ?_) (fun c1 => ?_)
  · skip
    refine g_iconst hc dX12_away_16 ?_
    refine g_goto (tgt := 28) hc dX12_away_17 (by decide) ?_
    refine g_iret hc hm dX12_away_28 ?_
    exact g_relE (by rw [if_neg (by omega)]) hdI2 hxI2
  · skip
    refine g_aldn hc dX12_away_8 rfl ?_
    refine g_iload_n hc dX12_away_9 rfl ?_
    refine g_V1r hc (c_X12_isPot w hR hlb hI hsI2 hxI2 hC hTb (by first | assumption | exact hI _ _ | exact ⟨by omega, by omega⟩)) my_X12_isPot mv_X12_isPot ca_0 rfl rfl lm_X12_256 rfl (by decide) (Nat.le_of_ble_eq_true rfl) hm dX12_away_10 ?_
    refine g_ifb_ne (tgt := 20) hc dX12_away_13 (by decide)  (fun c2 => ?_) (fun c2 => ?_)
    · skip
      refine g_aldn hc dX12_away_20 rfl ?_
      refine g_getRk hc lk_X12_69 ca_0 (rc_0_7 hR) dX12_away_21 ?_
      refine g_iload_n hc dX12_away_24 rfl ?_
      refine g_V1 hc (c_X1_fewestAway w hR hlb hI hsI2 hxI2 hC (by omega)) my_X1_fewestAway mv_X1_fewestAway ca_686 rfl rfl lm_X12_268 rfl (by decide) (Nat.le_of_ble_eq_true rfl) hm dX12_away_25 (fun r3 n3 I3 J3 R3 hp3 => ?_)
      obtain ⟨rfl, rfl, hfI3, hxI3, rfl, rfl⟩ := hp3
      have hsI3 : g_off I I3 := fun k hk => (hfI3 k (fun q => hk (by omega))).trans (hsI2 k hk)
      have hdI3 : ∀ k : Nat, ¬ g_sc k → I3 k = I2 k := fun k hk => (hfI3 k (fun q => hk (by omega))).trans (hdI2 k hk)
      refine g_iret hc hm dX12_away_28 ?_
      exact g_relE (by rw [if_pos (by omega)]) hdI3 hxI3
    · skip
      refine g_iconst hc dX12_away_16 ?_
      refine g_goto (tgt := 28) hc dX12_away_17 (by decide) ?_
      refine g_iret hc hm dX12_away_28 ?_
      exact g_relE (by rw [if_neg (by omega)]) hdI2 hxI2
set_option maxHeartbeats 4000000 in
set_option maxRecDepth 100000 in
/-- X12_elected -/
theorem c_X12_elected (w : g_W) {I : g_I} {J : g_J} {R : g_R} {lb tx : Nat} (hR : g_rf w R lb tx) (hlb : g_life lb) {I2 : g_I} (hI : ∀ k j, g32 (I k j)) (hsI2 : g_off I I2) (hxI2 : ∀ k j, g32 (I2 k j)) (hC : g_cin I lb) (hTb : I 0 12 = -1 ∨ (0 ≤ I 0 12 ∧ I 0 12 ≤ 2)) {k : Int} (g1 : g32 k) : g_Met w g_n I2 J R yX12_elected cX12_elected 2 (some .int) 6 0 0 [(gvr w 0), (gvI k)] (fun rr nn II JJ RR => g_rel w (some (gvI (if 0 ≤ I 0 12 ∧ ¬ I 0 11 = 0 ∧ 0 ≤ k ∧ k ≤ 1 then g_win I lb (I 0 11) k else -1))) g_sc I2 J R rr nn II JJ RR) := by
  refine g_intro (own := RX12) [some (gvr w 0), some (gvI k)] (by decide +kernel) rfl (by decide) (Nat.le_of_ble_eq_true rfl) rfl (fun i v hv => g_args 0 i v hv rfl) (fun x hc hm => ?_)
  have hL := hC.1
  obtain ⟨hn0, hn1, hLs, hLf⟩ := id hL
  obtain ⟨-, hC1, hC2, hC3, hC4, hC5, hC6, hC7⟩ := id hC
  have hlb5 := hlb
  unfold g_life at hlb5
  have hdI2 : ∀ k : Nat, ¬ g_sc k → I2 k = I2 k := fun _ _ => rfl
  refine g_aldn hc dX12_elected_0 rfl ?_
  refine g_getIe hc lk_X12_87 ca_0 12 rfl (congrFun (hsI2 _ (by decide)) _) dX12_elected_1 ?_
  refine g_iconst hc dX12_elected_4 ?_
  refine g_icmp_eq (tgt := 24) hc dX12_elected_5 (by decide) (by first | exact hI _ _ | exact hxI2 _ _ | exact hIa _ _ | exact hIb _ _ | exact g_b32 | exact g_and32 | assumption | exact ⟨by omega, by omega⟩) (by first | exact hI _ _ | exact hxI2 _ _ | exact hIa _ _ | exact hIb _ _ | exact g_b32 | exact g_and32 | assumption | exact ⟨by omega, by omega⟩) (fun c1 => ?_) (fun c1 => ?_)
  · skip
    refine g_iconst hc dX12_elected_24 ?_
    refine g_iret hc hm dX12_elected_25 ?_
    exact g_relE (by rw [if_neg (by omega)]) hdI2 hxI2
  · skip
    refine g_aldn hc dX12_elected_8 rfl ?_
    refine g_getIe hc lk_X12_109 ca_0 11 rfl (congrFun (hsI2 _ (by decide)) _) dX12_elected_9 ?_
    refine g_if_eq (tgt := 24) hc dX12_elected_12 (by decide) (by first | exact hI _ _ | exact hxI2 _ _ | exact hIa _ _ | exact hIb _ _ | exact g_b32 | exact g_and32 | assumption | exact ⟨by omega, by omega⟩) (fun c2 => ?_) (fun c2 => ?_)
    · skip
      refine g_iconst hc dX12_elected_24 ?_
      refine g_iret hc hm dX12_elected_25 ?_
      exact g_relE (by rw [if_neg (by omega)]) hdI2 hxI2
    · skip
      refine g_iload_n hc dX12_elected_15 rfl ?_
      refine g_if_lt (tgt := 24) hc dX12_elected_16 (by decide) (by first | exact hI _ _ | exact hxI2 _ _ | exact hIa _ _ | exact hIb _ _ | exact g_b32 | exact g_and32 | assumption | exact ⟨by omega, by omega⟩) (fun c3 => ?_) (fun c3 => ?_)
      · skip
        refine g_iconst hc dX12_elected_24 ?_
        refine g_iret hc hm dX12_elected_25 ?_
        exact g_relE (by rw [if_neg (by omega)]) hdI2 hxI2
      · skip
        refine g_iload_n hc dX12_elected_19 rfl ?_
        refine g_iconst hc dX12_elected_20 ?_
        refine g_icmp_le (tgt := 26) hc dX12_elected_21 (by decide) (by first | exact hI _ _ | exact hxI2 _ _ | exact hIa _ _ | exact hIb _ _ | exact g_b32 | exact g_and32 | assumption | exact ⟨by omega, by omega⟩) (by first | exact hI _ _ | exact hxI2 _ _ | exact hIa _ _ | exact hIb _ _ | exact g_b32 | exact g_and32 | assumption | exact ⟨by omega, by omega⟩) (fun c4 => ?_) (fun c4 => ?_)
        · skip
          refine g_aldn hc dX12_elected_26 rfl ?_
          refine g_getRk hc lk_X12_69 ca_0 (rc_0_7 hR) dX12_elected_27 ?_
          refine g_aldn hc dX12_elected_30 rfl ?_
          refine g_getIe hc lk_X12_109 ca_0 11 rfl (congrFun (hsI2 _ (by decide)) _) dX12_elected_31 ?_
          refine g_iload_n hc dX12_elected_34 rfl ?_
          refine g_V2 hc (c_X1_winner w hR hlb hI hsI2 hxI2 hC (by omega) (by first | exact hI _ _ | exact hxI2 _ _ | exact hIa _ _ | exact hIb _ _ | exact g_b32 | exact g_and32 | assumption | exact ⟨by omega, by omega⟩)) my_X1_winner mv_X1_winner ca_686 rfl rfl lm_X12_271 rfl (by decide) (Nat.le_of_ble_eq_true rfl) hm dX12_elected_35 (fun r3 n3 I3 J3 R3 hp3 => ?_)
          obtain ⟨rfl, rfl, hfI3, hxI3, rfl, rfl⟩ := hp3
          have hsI3 : g_off I I3 := fun k hk => (hfI3 k (fun q => hk (by omega))).trans (hsI2 k hk)
          have hdI3 : ∀ k : Nat, ¬ g_sc k → I3 k = I2 k := fun k hk => (hfI3 k (fun q => hk (by omega))).trans (hdI2 k hk)
          refine g_iret hc hm dX12_elected_38 ?_
          exact g_relE (by rw [if_pos (by omega)]) hdI3 hxI3
        · skip
          refine g_iconst hc dX12_elected_24 ?_
          refine g_iret hc hm dX12_elected_25 ?_
          exact g_relE (by rw [if_neg (by omega)]) hdI2 hxI2
set_option maxHeartbeats 4000000 in
set_option maxRecDepth 100000 in
/-- X12_duel -/
theorem c_X12_duel (w : g_W) {I : g_I} {J : g_J} {R : g_R} {lb tx : Nat} (hR : g_rf w R lb tx) (hlb : g_life lb) {I2 : g_I} (hI : ∀ k j, g32 (I k j)) (hsI2 : g_off I I2) (hxI2 : ∀ k j, g32 (I2 k j)) (hC : g_cin I lb) (hTb : I 0 12 = -1 ∨ (0 ≤ I 0 12 ∧ I 0 12 ≤ 2)) {s i : Int} (g1 : g32 s) (g2 : g32 i) : g_Met w g_n I2 J R yX12_duel cX12_duel 3 (some .int) 5 0 0 [(gvr w 0), (gvI s), (gvI i)] (fun rr nn II JJ RR => g_rel w (some (gvI (if 0 ≤ I 0 12 ∧ (0 ≤ s ∧ s < I 0 11) ∧ 0 ≤ i ∧ i < I 0 11 then g_ahd I lb s i else -2000000000))) g_sc I2 J R rr nn II JJ RR) := by
  refine g_intro (own := RX12) [some (gvr w 0), some (gvI s), some (gvI i)] (by decide +kernel) rfl (by decide) (Nat.le_of_ble_eq_true rfl) rfl (fun i v hv => g_args 0 i v hv rfl) (fun x hc hm => ?_)
  have hL := hC.1
  obtain ⟨hn0, hn1, hLs, hLf⟩ := id hL
  obtain ⟨-, hC1, hC2, hC3, hC4, hC5, hC6, hC7⟩ := id hC
  have hlb5 := hlb
  unfold g_life at hlb5
  have hdI2 : ∀ k : Nat, ¬ g_sc k → I2 k = I2 k := fun _ _ => rfl
  refine g_aldn hc dX12_duel_0 rfl ?_
  refine g_getIe hc lk_X12_87 ca_0 12 rfl (congrFun (hsI2 _ (by decide)) _) dX12_duel_1 ?_
  refine g_iconst hc dX12_duel_4 ?_
  refine g_icmp_eq (tgt := 24) hc dX12_duel_5 (by decide) (by first | exact hI _ _ | exact hxI2 _ _ | exact hIa _ _ | exact hIb _ _ | exact g_b32 | exact g_and32 | assumption | exact ⟨by omega, by omega⟩) (by first | exact hI _ _ | exact hxI2 _ _ | exact hIa _ _ | exact hIb _ _ | exact g_b32 | exact g_and32 | assumption | exact ⟨by omega, by omega⟩) (fun c1 => ?_) (fun c1 => ?_)
  · skip
    refine g_ldc (k := (-2000000000)) hc dX12_duel_24 _ lc_X12_223 (by decide +kernel) ?_
    refine g_iret hc hm dX12_duel_26 ?_
    exact g_relE (by rw [if_neg (by omega)]) hdI2 hxI2
  · skip
    refine g_aldn hc dX12_duel_8 rfl ?_
    refine g_iload_n hc dX12_duel_9 rfl ?_
    refine g_V1r hc (c_X12_isTaste w hR hlb hI hsI2 hxI2 hC hTb (by first | assumption | exact hI _ _ | exact ⟨by omega, by omega⟩)) my_X12_isTaste mv_X12_isTaste ca_0 rfl rfl lm_X12_274 rfl (by decide) (Nat.le_of_ble_eq_true rfl) hm dX12_duel_10 ?_
    refine g_ifb_eq (tgt := 24) hc dX12_duel_13 (by decide)  (fun c2 => ?_) (fun c2 => ?_)
    · skip
      refine g_ldc (k := (-2000000000)) hc dX12_duel_24 _ lc_X12_223 (by decide +kernel) ?_
      refine g_iret hc hm dX12_duel_26 ?_
      exact g_relE (by rw [if_neg (by omega)]) hdI2 hxI2
    · skip
      refine g_aldn hc dX12_duel_16 rfl ?_
      refine g_iload_n hc dX12_duel_17 rfl ?_
      refine g_V1r hc (c_X12_isTaste w hR hlb hI hsI2 hxI2 hC hTb (by first | assumption | exact hI _ _ | exact ⟨by omega, by omega⟩)) my_X12_isTaste mv_X12_isTaste ca_0 rfl rfl lm_X12_274 rfl (by decide) (Nat.le_of_ble_eq_true rfl) hm dX12_duel_18 ?_
      refine g_ifb_ne (tgt := 27) hc dX12_duel_21 (by decide)  (fun c3 => ?_) (fun c3 => ?_)
      · skip
        refine g_aldn hc dX12_duel_27 rfl ?_
        refine g_getRk hc lk_X12_69 ca_0 (rc_0_7 hR) dX12_duel_28 ?_
        refine g_aldn hc dX12_duel_31 rfl ?_
        refine g_getIe hc lk_X12_109 ca_0 11 rfl (congrFun (hsI2 _ (by decide)) _) dX12_duel_32 ?_
        refine g_V1 hc (c_X1_hear w hR hlb hI hsI2 hxI2 hC (by omega)) my_X1_hear mv_X1_hear ca_686 rfl rfl lm_X12_277 rfl (by decide) (Nat.le_of_ble_eq_true rfl) hm dX12_duel_35 (fun r3 n3 I3 J3 R3 hp3 => ?_)
        obtain ⟨⟨rfl, rfl, hfI3, hxI3, rfl, rfl⟩, hHI3⟩ := hp3
        have hsI3 : g_off I I3 := fun k hk => (hfI3 k (fun q => hk (by omega))).trans (hsI2 k hk)
        have hdI3 : ∀ k : Nat, ¬ g_sc k → I3 k = I2 k := fun k hk => (hfI3 k (fun q => hk (by omega))).trans (hdI2 k hk)
        refine g_aldn hc dX12_duel_38 rfl ?_
        refine g_getRk hc lk_X12_69 ca_0 (rc_0_7 hR) dX12_duel_39 ?_
        refine g_iload_n hc dX12_duel_42 rfl ?_
        refine g_iload_n hc dX12_duel_43 rfl ?_
        refine g_V2r hc (c_X1_ahead w hR hlb hI hsI3 hxI3 hC (by omega) hHI3 (by omega) (by omega)) my_X1_ahead mv_X1_ahead ca_686 rfl rfl lm_X12_280 rfl (by decide) (Nat.le_of_ble_eq_true rfl) hm dX12_duel_44 ?_
        refine g_iret hc hm dX12_duel_47 ?_
        exact g_relE (by rw [if_pos (by omega)]) hdI3 hxI3
      · skip
        refine g_ldc (k := (-2000000000)) hc dX12_duel_24 _ lc_X12_223 (by decide +kernel) ?_
        refine g_iret hc hm dX12_duel_26 ?_
        exact g_relE (by rw [if_neg (by omega)]) hdI2 hxI2
set_option maxHeartbeats 4000000 in
set_option maxRecDepth 100000 in
/-- X12_beats -/
theorem c_X12_beats (w : g_W) {I : g_I} {J : g_J} {R : g_R} {lb tx : Nat} (hR : g_rf w R lb tx) (hlb : g_life lb) {I2 : g_I} (hI : ∀ k j, g32 (I k j)) (hsI2 : g_off I I2) (hxI2 : ∀ k j, g32 (I2 k j)) (hC : g_cin I lb) (hTb : I 0 12 = -1 ∨ (0 ≤ I 0 12 ∧ I 0 12 ≤ 2))  : g_Met w g_n I2 J R yX12_beats cX12_beats 1 (some .int) 6 0 0 [(gvr w 0)] (fun rr nn II JJ RR => g_rel w (some (gvI (if 0 ≤ I 0 12 ∧ 2 ≤ I 0 11 then g_bta I lb (I 0 11) else -1))) g_sc I2 J R rr nn II JJ RR) := by
  refine g_intro (own := RX12) [some (gvr w 0)] (by decide +kernel) rfl (by decide) (Nat.le_of_ble_eq_true rfl) rfl (fun i v hv => g_args 0 i v hv rfl) (fun x hc hm => ?_)
  have hL := hC.1
  obtain ⟨hn0, hn1, hLs, hLf⟩ := id hL
  obtain ⟨-, hC1, hC2, hC3, hC4, hC5, hC6, hC7⟩ := id hC
  have hlb5 := hlb
  unfold g_life at hlb5
  have hdI2 : ∀ k : Nat, ¬ g_sc k → I2 k = I2 k := fun _ _ => rfl
  refine g_aldn hc dX12_beats_0 rfl ?_
  refine g_getIe hc lk_X12_87 ca_0 12 rfl (congrFun (hsI2 _ (by decide)) _) dX12_beats_1 ?_
  refine g_iconst hc dX12_beats_4 ?_
  refine g_icmp_eq (tgt := 16) hc dX12_beats_5 (by decide) (by first | exact hI _ _ | exact hxI2 _ _ | exact hIa _ _ | exact hIb _ _ | exact g_b32 | exact g_and32 | assumption | exact ⟨by omega, by omega⟩) (by first | exact hI _ _ | exact hxI2 _ _ | exact hIa _ _ | exact hIb _ _ | exact g_b32 | exact g_and32 | assumption | exact ⟨by omega, by omega⟩) (fun c1 => ?_) (fun c1 => ?_)
  · skip
    refine g_iconst hc dX12_beats_16 ?_
    refine g_goto (tgt := 31) hc dX12_beats_17 (by decide) ?_
    refine g_iret hc hm dX12_beats_31 ?_
    exact g_relE (by rw [if_neg (by omega)]) hdI2 hxI2
  · skip
    refine g_aldn hc dX12_beats_8 rfl ?_
    refine g_getIe hc lk_X12_109 ca_0 11 rfl (congrFun (hsI2 _ (by decide)) _) dX12_beats_9 ?_
    refine g_iconst hc dX12_beats_12 ?_
    refine g_icmp_ge (tgt := 20) hc dX12_beats_13 (by decide) (by first | exact hI _ _ | exact hxI2 _ _ | exact hIa _ _ | exact hIb _ _ | exact g_b32 | exact g_and32 | assumption | exact ⟨by omega, by omega⟩) (by first | exact hI _ _ | exact hxI2 _ _ | exact hIa _ _ | exact hIb _ _ | exact g_b32 | exact g_and32 | assumption | exact ⟨by omega, by omega⟩) (fun c2 => ?_) (fun c2 => ?_)
    · skip
      refine g_aldn hc dX12_beats_20 rfl ?_
      refine g_getRk hc lk_X12_69 ca_0 (rc_0_7 hR) dX12_beats_21 ?_
      refine g_aldn hc dX12_beats_24 rfl ?_
      refine g_getIe hc lk_X12_109 ca_0 11 rfl (congrFun (hsI2 _ (by decide)) _) dX12_beats_25 ?_
      refine g_V1 hc (c_X1_beatsAll w hR hlb hI hsI2 hxI2 hC (by omega)) my_X1_beatsAll mv_X1_beatsAll ca_686 rfl rfl lm_X12_282 rfl (by decide) (Nat.le_of_ble_eq_true rfl) hm dX12_beats_28 (fun r3 n3 I3 J3 R3 hp3 => ?_)
      obtain ⟨rfl, rfl, hfI3, hxI3, rfl, rfl⟩ := hp3
      have hsI3 : g_off I I3 := fun k hk => (hfI3 k (fun q => hk (by omega))).trans (hsI2 k hk)
      have hdI3 : ∀ k : Nat, ¬ g_sc k → I3 k = I2 k := fun k hk => (hfI3 k (fun q => hk (by omega))).trans (hdI2 k hk)
      refine g_iret hc hm dX12_beats_31 ?_
      exact g_relE (by rw [if_pos (by omega)]) hdI3 hxI3
    · skip
      refine g_iconst hc dX12_beats_16 ?_
      refine g_goto (tgt := 31) hc dX12_beats_17 (by decide) ?_
      refine g_iret hc hm dX12_beats_31 ?_
      exact g_relE (by rw [if_neg (by omega)]) hdI2 hxI2
set_option maxHeartbeats 4000000 in
set_option maxRecDepth 100000 in
/-- X12_ring -/
theorem c_X12_ring (w : g_W) {I : g_I} {J : g_J} {R : g_R} {lb tx : Nat} (hR : g_rf w R lb tx) (hlb : g_life lb) {I2 : g_I} (hI : ∀ k j, g32 (I k j)) (hsI2 : g_off I I2) (hxI2 : ∀ k j, g32 (I2 k j)) (hC : g_cin I lb) (hTb : I 0 12 = -1 ∨ (0 ≤ I 0 12 ∧ I 0 12 ≤ 2))  : g_Met w g_n I2 J R yX12_ring cX12_ring 1 (some .int) 6 0 0 [(gvr w 0)] (fun rr nn II JJ RR => g_rel w (some (gvI (if 0 ≤ I 0 12 then g_rng I lb (I 0 11) else -1))) g_sc I2 J R rr nn II JJ RR) := by
  refine g_intro (own := RX12) [some (gvr w 0)] (by decide +kernel) rfl (by decide) (Nat.le_of_ble_eq_true rfl) rfl (fun i v hv => g_args 0 i v hv rfl) (fun x hc hm => ?_)
  have hL := hC.1
  obtain ⟨hn0, hn1, hLs, hLf⟩ := id hL
  obtain ⟨-, hC1, hC2, hC3, hC4, hC5, hC6, hC7⟩ := id hC
  have hlb5 := hlb
  unfold g_life at hlb5
  have hdI2 : ∀ k : Nat, ¬ g_sc k → I2 k = I2 k := fun _ _ => rfl
  refine g_aldn hc dX12_ring_0 rfl ?_
  refine g_getIe hc lk_X12_87 ca_0 12 rfl (congrFun (hsI2 _ (by decide)) _) dX12_ring_1 ?_
  refine g_iconst hc dX12_ring_4 ?_
  refine g_icmp_ne (tgt := 12) hc dX12_ring_5 (by decide) (by first | exact hI _ _ | exact hxI2 _ _ | exact hIa _ _ | exact hIb _ _ | exact g_b32 | exact g_and32 | assumption | exact ⟨by omega, by omega⟩) (by first | exact hI _ _ | exact hxI2 _ _ | exact hIa _ _ | exact hIb _ _ | exact g_b32 | exact g_and32 | assumption | exact ⟨by omega, by omega⟩) (fun c1 => ?_) (fun c1 => ?_)
  · skip
    refine g_aldn hc dX12_ring_12 rfl ?_
    refine g_getRk hc lk_X12_69 ca_0 (rc_0_7 hR) dX12_ring_13 ?_
    refine g_aldn hc dX12_ring_16 rfl ?_
    refine g_getIe hc lk_X12_109 ca_0 11 rfl (congrFun (hsI2 _ (by decide)) _) dX12_ring_17 ?_
    refine g_V1 hc (c_X1_leastRing w hR hlb hI hsI2 hxI2 hC (by omega)) my_X1_leastRing mv_X1_leastRing ca_686 rfl rfl lm_X12_285 rfl (by decide) (Nat.le_of_ble_eq_true rfl) hm dX12_ring_20 (fun r3 n3 I3 J3 R3 hp3 => ?_)
    obtain ⟨rfl, rfl, hfI3, hxI3, rfl, rfl⟩ := hp3
    have hsI3 : g_off I I3 := fun k hk => (hfI3 k (fun q => hk (by omega))).trans (hsI2 k hk)
    have hdI3 : ∀ k : Nat, ¬ g_sc k → I3 k = I2 k := fun k hk => (hfI3 k (fun q => hk (by omega))).trans (hdI2 k hk)
    refine g_iret hc hm dX12_ring_23 ?_
    exact g_relE (by rw [if_pos (by omega)]) hdI3 hxI3
  · skip
    refine g_iconst hc dX12_ring_8 ?_
    refine g_goto (tgt := 23) hc dX12_ring_9 (by decide) ?_
    refine g_iret hc hm dX12_ring_23 ?_
    exact g_relE (by rw [if_neg (by omega)]) hdI2 hxI2
set_option maxHeartbeats 4000000 in
set_option maxRecDepth 100000 in
/-- X12_all -/
theorem c_X12_all (w : g_W) {I : g_I} {J : g_J} {R : g_R} {lb tx : Nat} (hR : g_rf w R lb tx) (hlb : g_life lb) {I2 : g_I} (hI : ∀ k j, g32 (I k j)) (hsI2 : g_off I I2) (hxI2 : ∀ k j, g32 (I2 k j)) (hC : g_cin I lb) (hTb : I 0 12 = -1 ∨ (0 ≤ I 0 12 ∧ I 0 12 ≤ 2)) {k : Int} (g1 : g32 k) : g_Met w g_n I2 J R yX12_all cX12_all 2 (some .int) 2 0 0 [(gvr w 0), (gvI k)] (fun rr nn II JJ RR => g_rel w (some (gvI (if 0 ≤ I 0 12 ∧ 0 ≤ k ∧ k < g_shl 1 (I lb 0) then g_com I lb k else -1))) g_sc I2 J R rr nn II JJ RR) := by
  refine g_intro (own := RX12) [some (gvr w 0), some (gvI k)] (by decide +kernel) rfl (by decide) (Nat.le_of_ble_eq_true rfl) rfl (fun i v hv => g_args 0 i v hv rfl) (fun x hc hm => ?_)
  have hL := hC.1
  obtain ⟨hn0, hn1, hLs, hLf⟩ := id hL
  obtain ⟨-, hC1, hC2, hC3, hC4, hC5, hC6, hC7⟩ := id hC
  have hlb5 := hlb
  unfold g_life at hlb5
  have hdI2 : ∀ k : Nat, ¬ g_sc k → I2 k = I2 k := fun _ _ => rfl
  refine g_aldn hc dX12_all_0 rfl ?_
  refine g_getIe hc lk_X12_87 ca_0 12 rfl (congrFun (hsI2 _ (by decide)) _) dX12_all_1 ?_
  refine g_iconst hc dX12_all_4 ?_
  refine g_icmp_eq (tgt := 28) hc dX12_all_5 (by decide) (by first | exact hI _ _ | exact hxI2 _ _ | exact hIa _ _ | exact hIb _ _ | exact g_b32 | exact g_and32 | assumption | exact ⟨by omega, by omega⟩) (by first | exact hI _ _ | exact hxI2 _ _ | exact hIa _ _ | exact hIb _ _ | exact g_b32 | exact g_and32 | assumption | exact ⟨by omega, by omega⟩) (fun c1 => ?_) (fun c1 => ?_)
  · skip
    refine g_iconst hc dX12_all_28 ?_
    refine g_iret hc hm dX12_all_29 ?_
    exact g_relE (by rw [if_neg (by omega)]) hdI2 hxI2
  · skip
    refine g_iload_n hc dX12_all_8 rfl ?_
    refine g_if_lt (tgt := 28) hc dX12_all_9 (by decide) (by first | exact hI _ _ | exact hxI2 _ _ | exact hIa _ _ | exact hIb _ _ | exact g_b32 | exact g_and32 | assumption | exact ⟨by omega, by omega⟩) (fun c2 => ?_) (fun c2 => ?_)
    · skip
      refine g_iconst hc dX12_all_28 ?_
      refine g_iret hc hm dX12_all_29 ?_
      exact g_relE (by rw [if_neg (by omega)]) hdI2 hxI2
    · skip
      refine g_iload_n hc dX12_all_12 rfl ?_
      refine g_iconst hc dX12_all_13 ?_
      refine g_aldn hc dX12_all_14 rfl ?_
      refine g_getRk hc lk_X12_51 ca_0 (rc_0_5 hR) dX12_all_15 ?_
      refine g_getRvk hc lk_X12_118 ca_548 (rc_548_3 hR) dX12_all_18 ?_
      refine g_getIe hc lk_X12_122 (la_0 hlb) 0 rfl (congrFun (hsI2 _ (by omega)) _) dX12_all_21 ?_
      refine g_ishl hc dX12_all_24 ?_
      refine g_icmp_lt (tgt := 30) hc dX12_all_25 (by decide) g1 g_shl32 (fun c3 => ?_) (fun c3 => ?_)
      · skip
        refine g_aldn hc dX12_all_30 rfl ?_
        refine g_getRk hc lk_X12_76 ca_0 (rc_0_8 hR) dX12_all_31 ?_
        refine g_iload_n hc dX12_all_34 rfl ?_
        refine g_V1r hc (c_X2_common w hR hlb hI hsI2 hxI2 hC) my_X2_common mv_X2_common ca_697 rfl rfl lm_X12_288 rfl (by decide) (Nat.le_of_ble_eq_true rfl) hm dX12_all_35 ?_
        refine g_iret hc hm dX12_all_38 ?_
        exact g_relE (by rw [if_pos (by omega)]) hdI2 hxI2
      · skip
        refine g_iconst hc dX12_all_28 ?_
        refine g_iret hc hm dX12_all_29 ?_
        exact g_relE (by rw [if_neg (by omega)]) hdI2 hxI2
set_option maxHeartbeats 4000000 in
set_option maxRecDepth 100000 in
/-- X12_twins -/
theorem c_X12_twins (w : g_W) {I : g_I} {J : g_J} {R : g_R} {lb tx : Nat} (hR : g_rf w R lb tx) (hlb : g_life lb) {I2 : g_I} (hI : ∀ k j, g32 (I k j)) (hsI2 : g_off I I2) (hxI2 : ∀ k j, g32 (I2 k j)) (hC : g_cin I lb) (hTb : I 0 12 = -1 ∨ (0 ≤ I 0 12 ∧ I 0 12 ≤ 2)) {s : Int} (g1 : g32 s) : g_Met w g_n I2 J R yX12_twins cX12_twins 2 (some .int) 4 0 0 [(gvr w 0), (gvI s)] (fun rr nn II JJ RR => g_rel w (some (gvI (if (0 ≤ s ∧ s < I lb 0) then g_twn I lb s else -1))) g_sc I2 J R rr nn II JJ RR) := by
  refine g_intro (own := RX12) [some (gvr w 0), some (gvI s)] (by decide +kernel) rfl (by decide) (Nat.le_of_ble_eq_true rfl) rfl (fun i v hv => g_args 0 i v hv rfl) (fun x hc hm => ?_)
  have hL := hC.1
  obtain ⟨hn0, hn1, hLs, hLf⟩ := id hL
  obtain ⟨-, hC1, hC2, hC3, hC4, hC5, hC6, hC7⟩ := id hC
  have hlb5 := hlb
  unfold g_life at hlb5
  have hdI2 : ∀ k : Nat, ¬ g_sc k → I2 k = I2 k := fun _ _ => rfl
  refine g_aldn hc dX12_twins_0 rfl ?_
  refine g_getRk hc lk_X12_51 ca_0 (rc_0_5 hR) dX12_twins_1 ?_
  refine g_getRvk hc lk_X12_118 ca_548 (rc_548_3 hR) dX12_twins_4 ?_
  refine g_iload_n hc dX12_twins_7 rfl ?_
  refine g_V1r hc (c_X4_hasLeaf w hR hxI2 hlb (by first | exact hI _ _ | exact hxI2 _ _ | exact hIa _ _ | exact hIb _ _ | exact g_b32 | exact g_and32 | assumption | exact ⟨by omega, by omega⟩)) my_X4_hasLeaf mv_X4_hasLeaf (la_0 hlb) rfl rfl lm_X12_125 rfl (by decide) (Nat.le_of_ble_eq_true rfl) hm dX12_twins_8 ?_
  rw [show I2 (lb) 0 = I (lb) 0 from by rw [hsI2 _ (g_nl hlb (by omega) (by omega))]]
  refine g_ifb_eq (tgt := 25) hc dX12_twins_11 (by decide)  (fun c1 => ?_) (fun c1 => ?_)
  · skip
    refine g_iconst hc dX12_twins_25 ?_
    refine g_iret hc hm dX12_twins_26 ?_
    exact g_relE (by rw [if_neg (by omega)]) hdI2 hxI2
  · skip
    refine g_aldn hc dX12_twins_14 rfl ?_
    refine g_getRk hc lk_X12_76 ca_0 (rc_0_8 hR) dX12_twins_15 ?_
    refine g_iload_n hc dX12_twins_18 rfl ?_
    refine g_V1r hc (c_X2_sameAs w hR hlb hI hsI2 hxI2 hC (by omega)) my_X2_sameAs mv_X2_sameAs ca_697 rfl rfl lm_X12_294 rfl (by decide) (Nat.le_of_ble_eq_true rfl) hm dX12_twins_19 ?_
    refine g_goto (tgt := 26) hc dX12_twins_22 (by decide) ?_
    refine g_iret hc hm dX12_twins_26 ?_
    exact g_relE (by rw [if_pos (by omega)]) hdI2 hxI2
set_option maxHeartbeats 4000000 in
set_option maxRecDepth 100000 in
/-- X12_sentence -/
theorem c_X12_sentence (w : g_W) {I : g_I} {J : g_J} {R : g_R} {lb tx : Nat} (hR : g_rf w R lb tx) (hlb : g_life lb) {I2 : g_I} (hI : ∀ k j, g32 (I k j)) (hsI2 : g_off I I2) (hxI2 : ∀ k j, g32 (I2 k j)) (hC : g_cin I lb) (hTb : I 0 12 = -1 ∨ (0 ≤ I 0 12 ∧ I 0 12 ≤ 2))  : g_Met w g_n I2 J R yX12_sentence cX12_sentence 1 (some .int) 5 0 0 [(gvr w 0)] (fun rr nn II JJ RR => g_rel w (some (gvI (if 0 ≤ I 0 12 then g_sen I lb else -1))) g_sc I2 J R rr nn II JJ RR) := by
  refine g_intro (own := RX12) [some (gvr w 0)] (by decide +kernel) rfl (by decide) (Nat.le_of_ble_eq_true rfl) rfl (fun i v hv => g_args 0 i v hv rfl) (fun x hc hm => ?_)
  have hL := hC.1
  obtain ⟨hn0, hn1, hLs, hLf⟩ := id hL
  obtain ⟨-, hC1, hC2, hC3, hC4, hC5, hC6, hC7⟩ := id hC
  have hlb5 := hlb
  unfold g_life at hlb5
  have hdI2 : ∀ k : Nat, ¬ g_sc k → I2 k = I2 k := fun _ _ => rfl
  refine g_aldn hc dX12_sentence_0 rfl ?_
  refine g_getIe hc lk_X12_87 ca_0 12 rfl (congrFun (hsI2 _ (by decide)) _) dX12_sentence_1 ?_
  refine g_iconst hc dX12_sentence_4 ?_
  refine g_icmp_ne (tgt := 12) hc dX12_sentence_5 (by decide) (by first | exact hI _ _ | exact hxI2 _ _ | exact hIa _ _ | exact hIb _ _ | exact g_b32 | exact g_and32 | assumption | exact ⟨by omega, by omega⟩) (by first | exact hI _ _ | exact hxI2 _ _ | exact hIa _ _ | exact hIb _ _ | exact g_b32 | exact g_and32 | assumption | exact ⟨by omega, by omega⟩) (fun c1 => ?_) (fun c1 => ?_)
  · skip
    refine g_aldn hc dX12_sentence_12 rfl ?_
    refine g_getRk hc lk_X12_76 ca_0 (rc_0_8 hR) dX12_sentence_13 ?_
    refine g_V0r hc (c_X2_fewestForAll w hR hlb hI hsI2 hxI2 hC) my_X2_fewestForAll mv_X2_fewestForAll ca_697 rfl rfl lm_X12_297 rfl (by decide) (Nat.le_of_ble_eq_true rfl) hm dX12_sentence_16 ?_
    refine g_iret hc hm dX12_sentence_19 ?_
    exact g_relE (by rw [if_pos (by omega)]) hdI2 hxI2
  · skip
    refine g_iconst hc dX12_sentence_8 ?_
    refine g_goto (tgt := 19) hc dX12_sentence_9 (by decide) ?_
    refine g_iret hc hm dX12_sentence_19 ?_
    exact g_relE (by rw [if_neg (by omega)]) hdI2 hxI2
set_option maxHeartbeats 4000000 in
set_option maxRecDepth 100000 in
/-- X12_leads -/
theorem c_X12_leads (w : g_W) {I : g_I} {J : g_J} {R : g_R} {lb tx : Nat} (hR : g_rf w R lb tx) (hlb : g_life lb) {I2 : g_I} (hI : ∀ k j, g32 (I k j)) (hsI2 : g_off I I2) (hxI2 : ∀ k j, g32 (I2 k j)) (hC : g_cin I lb) (hTb : I 0 12 = -1 ∨ (0 ≤ I 0 12 ∧ I 0 12 ≤ 2)) {u v : Int} (g1 : g32 u) (g2 : g32 v) : g_Met w g_n I2 J R yX12_leads cX12_leads 3 (some .int) 4 0 0 [(gvr w 0), (gvI u), (gvI v)] (fun rr nn II JJ RR => g_rel w (some (gvI (if 0 ≤ I 0 12 ∧ (0 ≤ u ∧ u ≤ 9) ∧ 0 ≤ v ∧ v ≤ 9 then g_b (g_lds I lb u v = true) else -1))) g_sc I2 J R rr nn II JJ RR) := by
  refine g_intro (own := RX12) [some (gvr w 0), some (gvI u), some (gvI v)] (by decide +kernel) rfl (by decide) (Nat.le_of_ble_eq_true rfl) rfl (fun i v hv => g_args 0 i v hv rfl) (fun x hc hm => ?_)
  have hL := hC.1
  obtain ⟨hn0, hn1, hLs, hLf⟩ := id hL
  obtain ⟨-, hC1, hC2, hC3, hC4, hC5, hC6, hC7⟩ := id hC
  have hlb5 := hlb
  unfold g_life at hlb5
  have hdI2 : ∀ k : Nat, ¬ g_sc k → I2 k = I2 k := fun _ _ => rfl
  refine g_aldn hc dX12_leads_0 rfl ?_
  refine g_getIe hc lk_X12_87 ca_0 12 rfl (congrFun (hsI2 _ (by decide)) _) dX12_leads_1 ?_
  refine g_iconst hc dX12_leads_4 ?_
  refine g_icmp_eq (tgt := 28) hc dX12_leads_5 (by decide) (by first | exact hI _ _ | exact hxI2 _ _ | exact hIa _ _ | exact hIb _ _ | exact g_b32 | exact g_and32 | assumption | exact ⟨by omega, by omega⟩) (by first | exact hI _ _ | exact hxI2 _ _ | exact hIa _ _ | exact hIb _ _ | exact g_b32 | exact g_and32 | assumption | exact ⟨by omega, by omega⟩) (fun c1 => ?_) (fun c1 => ?_)
  · skip
    refine g_iconst hc dX12_leads_28 ?_
    refine g_iret hc hm dX12_leads_29 ?_
    exact g_relE (by rw [if_neg (by omega)]) hdI2 hxI2
  · skip
    refine g_iload_n hc dX12_leads_8 rfl ?_
    refine g_if_lt (tgt := 28) hc dX12_leads_9 (by decide) (by first | exact hI _ _ | exact hxI2 _ _ | exact hIa _ _ | exact hIb _ _ | exact g_b32 | exact g_and32 | assumption | exact ⟨by omega, by omega⟩) (fun c2 => ?_) (fun c2 => ?_)
    · skip
      refine g_iconst hc dX12_leads_28 ?_
      refine g_iret hc hm dX12_leads_29 ?_
      exact g_relE (by rw [if_neg (by omega)]) hdI2 hxI2
    · skip
      refine g_iload_n hc dX12_leads_12 rfl ?_
      refine g_bipush hc dX12_leads_13 (by decide +kernel) ?_
      refine g_icmp_gt (tgt := 28) hc dX12_leads_15 (by decide) (by first | exact hI _ _ | exact hxI2 _ _ | exact hIa _ _ | exact hIb _ _ | exact g_b32 | exact g_and32 | assumption | exact ⟨by omega, by omega⟩) (by first | exact hI _ _ | exact hxI2 _ _ | exact hIa _ _ | exact hIb _ _ | exact g_b32 | exact g_and32 | assumption | exact ⟨by omega, by omega⟩) (fun c3 => ?_) (fun c3 => ?_)
      · skip
        refine g_iconst hc dX12_leads_28 ?_
        refine g_iret hc hm dX12_leads_29 ?_
        exact g_relE (by rw [if_neg (by omega)]) hdI2 hxI2
      · skip
        refine g_iload_n hc dX12_leads_18 rfl ?_
        refine g_if_lt (tgt := 28) hc dX12_leads_19 (by decide) (by first | exact hI _ _ | exact hxI2 _ _ | exact hIa _ _ | exact hIb _ _ | exact g_b32 | exact g_and32 | assumption | exact ⟨by omega, by omega⟩) (fun c4 => ?_) (fun c4 => ?_)
        · skip
          refine g_iconst hc dX12_leads_28 ?_
          refine g_iret hc hm dX12_leads_29 ?_
          exact g_relE (by rw [if_neg (by omega)]) hdI2 hxI2
        · skip
          refine g_iload_n hc dX12_leads_22 rfl ?_
          refine g_bipush hc dX12_leads_23 (by decide +kernel) ?_
          refine g_icmp_le (tgt := 30) hc dX12_leads_25 (by decide) (by first | exact hI _ _ | exact hxI2 _ _ | exact hIa _ _ | exact hIb _ _ | exact g_b32 | exact g_and32 | assumption | exact ⟨by omega, by omega⟩) (by first | exact hI _ _ | exact hxI2 _ _ | exact hIa _ _ | exact hIb _ _ | exact g_b32 | exact g_and32 | assumption | exact ⟨by omega, by omega⟩) (fun c5 => ?_) (fun c5 => ?_)
          · skip
            refine g_aldn hc dX12_leads_30 rfl ?_
            refine g_getRk hc lk_X12_76 ca_0 (rc_0_8 hR) dX12_leads_31 ?_
            refine g_iload_n hc dX12_leads_34 rfl ?_
            refine g_iload_n hc dX12_leads_35 rfl ?_
            refine g_V2r hc (c_X2_leadsTo w hR hlb hI hsI2 hxI2 hC) my_X2_leadsTo mv_X2_leadsTo ca_697 rfl rfl lm_X12_300 rfl (by decide) (Nat.le_of_ble_eq_true rfl) hm dX12_leads_36 ?_
            refine g_ifb_eq (tgt := 46) hc dX12_leads_39 (by decide)  (fun c6 => ?_) (fun c6 => ?_)
            · skip
              refine g_iconst hc dX12_leads_46 ?_
              refine g_iret hc hm dX12_leads_47 ?_
              exact g_relE (by rw [if_pos (by omega), g_b0 (by assumption)]) hdI2 hxI2
            · skip
              refine g_iconst hc dX12_leads_42 ?_
              refine g_goto (tgt := 47) hc dX12_leads_43 (by decide) ?_
              refine g_iret hc hm dX12_leads_47 ?_
              exact g_relE (by rw [if_pos (by omega), g_b1 (by assumption)]) hdI2 hxI2
          · skip
            refine g_iconst hc dX12_leads_28 ?_
            refine g_iret hc hm dX12_leads_29 ?_
            exact g_relE (by rw [if_neg (by omega)]) hdI2 hxI2
set_option maxHeartbeats 4000000 in
set_option maxRecDepth 100000 in
/-- X12_mean -/
theorem c_X12_mean (w : g_W) {I : g_I} {J : g_J} {R : g_R} {lb tx : Nat} (hR : g_rf w R lb tx) (hlb : g_life lb) {I2 : g_I} (hI : ∀ k j, g32 (I k j)) (hsI2 : g_off I I2) (hxI2 : ∀ k j, g32 (I2 k j)) (hC : g_cin I lb) (hTb : I 0 12 = -1 ∨ (0 ≤ I 0 12 ∧ I 0 12 ≤ 2)) {k : Int} (g1 : g32 k) : g_Met w g_n I2 J R yX12_mean cX12_mean 2 (some .int) 8 0 0 [(gvr w 0), (gvI k)] (fun rr nn II JJ RR => g_rel w (some (gvI (if 0 ≤ I 0 12 ∧ 0 ≤ k ∧ k ≤ 3 then g_avg I lb k else -2000000000))) g_sc I2 J R rr nn II JJ RR) := by
  refine g_intro (own := RX12) [some (gvr w 0), some (gvI k)] (by decide +kernel) rfl (by decide) (Nat.le_of_ble_eq_true rfl) rfl (fun i v hv => g_args 0 i v hv rfl) (fun x hc hm => ?_)
  have hL := hC.1
  obtain ⟨hn0, hn1, hLs, hLf⟩ := id hL
  obtain ⟨-, hC1, hC2, hC3, hC4, hC5, hC6, hC7⟩ := id hC
  have hlb5 := hlb
  unfold g_life at hlb5
  have hdI2 : ∀ k : Nat, ¬ g_sc k → I2 k = I2 k := fun _ _ => rfl
  refine g_aldn hc dX12_mean_0 rfl ?_
  refine g_getIe hc lk_X12_87 ca_0 12 rfl (congrFun (hsI2 _ (by decide)) _) dX12_mean_1 ?_
  refine g_iconst hc dX12_mean_4 ?_
  refine g_icmp_eq (tgt := 17) hc dX12_mean_5 (by decide) (by first | exact hI _ _ | exact hxI2 _ _ | exact hIa _ _ | exact hIb _ _ | exact g_b32 | exact g_and32 | assumption | exact ⟨by omega, by omega⟩) (by first | exact hI _ _ | exact hxI2 _ _ | exact hIa _ _ | exact hIb _ _ | exact g_b32 | exact g_and32 | assumption | exact ⟨by omega, by omega⟩) (fun c1 => ?_) (fun c1 => ?_)
  · skip
    refine g_ldc (k := (-2000000000)) hc dX12_mean_17 _ lc_X12_223 (by decide +kernel) ?_
    refine g_iret hc hm dX12_mean_19 ?_
    exact g_relE (by rw [if_neg (by omega)]) hdI2 hxI2
  · skip
    refine g_iload_n hc dX12_mean_8 rfl ?_
    refine g_if_lt (tgt := 17) hc dX12_mean_9 (by decide) (by first | exact hI _ _ | exact hxI2 _ _ | exact hIa _ _ | exact hIb _ _ | exact g_b32 | exact g_and32 | assumption | exact ⟨by omega, by omega⟩) (fun c2 => ?_) (fun c2 => ?_)
    · skip
      refine g_ldc (k := (-2000000000)) hc dX12_mean_17 _ lc_X12_223 (by decide +kernel) ?_
      refine g_iret hc hm dX12_mean_19 ?_
      exact g_relE (by rw [if_neg (by omega)]) hdI2 hxI2
    · skip
      refine g_iload_n hc dX12_mean_12 rfl ?_
      refine g_iconst hc dX12_mean_13 ?_
      refine g_icmp_le (tgt := 20) hc dX12_mean_14 (by decide) (by first | exact hI _ _ | exact hxI2 _ _ | exact hIa _ _ | exact hIb _ _ | exact g_b32 | exact g_and32 | assumption | exact ⟨by omega, by omega⟩) (by first | exact hI _ _ | exact hxI2 _ _ | exact hIa _ _ | exact hIb _ _ | exact g_b32 | exact g_and32 | assumption | exact ⟨by omega, by omega⟩) (fun c3 => ?_) (fun c3 => ?_)
      · skip
        refine g_aldn hc dX12_mean_20 rfl ?_
        refine g_getRk hc lk_X12_51 ca_0 (rc_0_5 hR) dX12_mean_21 ?_
        refine g_iload_n hc dX12_mean_24 rfl ?_
        refine g_V1 hc (c_X7_average w hR hlb hI hsI2 hxI2 hC (by omega)) my_X7_average mv_X7_average ca_548 rfl rfl lm_X12_224 rfl (by decide) (Nat.le_of_ble_eq_true rfl) hm dX12_mean_25 (fun r3 n3 I3 J3 R3 hp3 => ?_)
        obtain ⟨rfl, rfl, hfI3, hxI3, rfl, rfl⟩ := hp3
        have hsI3 : g_off I I3 := fun k hk => (hfI3 k (fun q => hk (by omega))).trans (hsI2 k hk)
        have hdI3 : ∀ k : Nat, ¬ g_sc k → I3 k = I2 k := fun k hk => (hfI3 k (fun q => hk (by omega))).trans (hdI2 k hk)
        refine g_iret hc hm dX12_mean_28 ?_
        exact g_relE (by rw [if_pos (by omega)]) hdI3 hxI3
      · skip
        refine g_ldc (k := (-2000000000)) hc dX12_mean_17 _ lc_X12_223 (by decide +kernel) ?_
        refine g_iret hc hm dX12_mean_19 ?_
        exact g_relE (by rw [if_neg (by omega)]) hdI2 hxI2
set_option maxHeartbeats 4000000 in
set_option maxRecDepth 100000 in
/-- X12_value -/
theorem c_X12_value (w : g_W) {I : g_I} {J : g_J} {R : g_R} {lb tx : Nat} (hR : g_rf w R lb tx) (hlb : g_life lb) {I2 : g_I} (hI : ∀ k j, g32 (I k j)) (hsI2 : g_off I I2) (hxI2 : ∀ k j, g32 (I2 k j)) (hC : g_cin I lb) (hTb : I 0 12 = -1 ∨ (0 ≤ I 0 12 ∧ I 0 12 ≤ 2)) {f k : Int} (g1 : g32 f) (g2 : g32 k) : g_Met w g_n I2 J R yX12_value cX12_value 4 (some .int) 6 0 0 [(gvr w 0), (gvI f), (gvI k)] (fun rr nn II JJ RR => g_rel w (some (gvI (if (0 ≤ f ∧ f < I lb 1) ∧ (k = -1 ∨ (0 ≤ k ∧ k < I (lb + 43) f)) then (if k = -1 then g_w5 I lb f else g_bhd I lb (g_w5 I lb) f k) else -2000000000))) g_sc I2 J R rr nn II JJ RR) := by
  refine g_intro (own := RX12) [some (gvr w 0), some (gvI f), some (gvI k), none] (by decide +kernel) rfl (by decide) (Nat.le_of_ble_eq_true rfl) rfl (fun i v hv => g_args 1 i v hv rfl) (fun x hc hm => ?_)
  have hL := hC.1
  obtain ⟨hn0, hn1, hLs, hLf⟩ := id hL
  obtain ⟨-, hC1, hC2, hC3, hC4, hC5, hC6, hC7⟩ := id hC
  have hlb5 := hlb
  unfold g_life at hlb5
  have hdI2 : ∀ k : Nat, ¬ g_sc k → I2 k = I2 k := fun _ _ => rfl
  refine g_iload_n hc dX12_value_0 rfl ?_
  refine g_iconst hc dX12_value_1 ?_
  refine g_icmp_ne (tgt := 9) hc dX12_value_2 (by decide) (by first | exact hI _ _ | exact hxI2 _ _ | exact hIa _ _ | exact hIb _ _ | exact g_b32 | exact g_and32 | assumption | exact ⟨by omega, by omega⟩) (by first | exact hI _ _ | exact hxI2 _ _ | exact hIa _ _ | exact hIb _ _ | exact g_b32 | exact g_and32 | assumption | exact ⟨by omega, by omega⟩) (fun c1 => ?_) (fun c1 => ?_)
  · skip
    refine g_iconst hc dX12_value_9 ?_
    refine g_istore_3 hc dX12_value_10 rfl ?_
    refine g_iload_n hc dX12_value_11 rfl ?_
    refine g_if_eq (tgt := 32) hc dX12_value_12 (by decide) (show g32 _ from ⟨by decide, by decide⟩) (fun c2 => ?_) (fun c2 => ?_)
    · skip
      refine g_aldn hc dX12_value_32 rfl ?_
      refine g_getRk hc lk_X12_51 ca_0 (rc_0_5 hR) dX12_value_33 ?_
      refine g_getRvk hc lk_X12_118 ca_548 (rc_548_3 hR) dX12_value_36 ?_
      refine g_iload_n hc dX12_value_39 rfl ?_
      refine g_iload_n hc dX12_value_40 rfl ?_
      refine g_V2r hc (c_X4_hasBranch w hR hxI2 hlb (by first | exact hI _ _ | exact hxI2 _ _ | exact hIa _ _ | exact hIb _ _ | exact g_b32 | exact g_and32 | assumption | exact ⟨by omega, by omega⟩) (by first | exact hI _ _ | exact hxI2 _ _ | exact hIa _ _ | exact hIb _ _ | exact g_b32 | exact g_and32 | assumption | exact ⟨by omega, by omega⟩) (by first | omega | (rw [hsI2 _ (g_nl hlb (by omega) (by omega))]; omega))) my_X4_hasBranch mv_X4_hasBranch (la_0 hlb) rfl rfl lm_X12_179 rfl (by decide) (Nat.le_of_ble_eq_true rfl) hm dX12_value_41 ?_
      rw [show I2 lb 1 = I lb 1 from by rw [hsI2 _ (g_nl hlb (by omega) (by omega))]]
      rw [show I2 (lb + 43) f = I (lb + 43) f from by rw [hsI2 _ (g_nl hlb (by omega) (by omega))]]
      refine g_ifb_ne (tgt := 50) hc dX12_value_44 (by decide)  (fun c3 => ?_) (fun c3 => ?_)
      · skip
        refine g_aldn hc dX12_value_50 rfl ?_
        refine g_getRk hc lk_X12_60 ca_0 (rc_0_6 hR) dX12_value_51 ?_
        refine g_V0 hc (c_X11_reckon w hR hlb hI hsI2 hxI2 hC) my_X11_reckon mv_X11_reckon ca_683 rfl rfl lm_X12_230 rfl (by decide) (Nat.le_of_ble_eq_true rfl) hm dX12_value_54 (fun r3 n3 I3 J3 R3 hp3 => ?_)
        obtain ⟨⟨rfl, rfl, hfI3, hxI3, rfl, rfl⟩, hVI3⟩ := hp3
        have hsI3 : g_off I I3 := fun k hk => (hfI3 k (fun q => hk (by omega))).trans (hsI2 k hk)
        have hdI3 : ∀ k : Nat, ¬ g_sc k → I3 k = I2 k := fun k hk => (hfI3 k (fun q => hk (by omega))).trans (hdI2 k hk)
        refine g_iload_n hc dX12_value_57 rfl ?_
        refine g_if_eq (tgt := 73) hc dX12_value_58 (by decide) (show g32 _ from ⟨by decide, by decide⟩) (fun c4 => ?_) (fun c4 => ?_)
        · skip
          refine g_aldn hc dX12_value_73 rfl ?_
          refine g_getRk hc lk_X12_60 ca_0 (rc_0_6 hR) dX12_value_74 ?_
          refine g_iload_n hc dX12_value_77 rfl ?_
          refine g_iload_n hc dX12_value_78 rfl ?_
          refine g_V2r hc (c_X11_behind w hR hlb hI hsI3 hxI3 hC hVI3 (by first | exact hI _ _ | exact hxI2 _ _ | exact hIa _ _ | exact hIb _ _ | exact g_b32 | exact g_and32 | assumption | exact ⟨by omega, by omega⟩) (by first | exact hI _ _ | exact hxI2 _ _ | exact hIa _ _ | exact hIb _ _ | exact g_b32 | exact g_and32 | assumption | exact ⟨by omega, by omega⟩) (by omega)) my_X11_behind mv_X11_behind ca_683 rfl rfl lm_X12_236 rfl (by decide) (Nat.le_of_ble_eq_true rfl) hm dX12_value_79 ?_
          refine g_iret hc hm dX12_value_82 ?_
          exact g_relE (by rw [if_pos (by omega), if_neg (by omega)]) hdI3 hxI3
        · exfalso; omega
      · skip
        refine g_ldc (k := (-2000000000)) hc dX12_value_47 _ lc_X12_223 (by decide +kernel) ?_
        refine g_iret hc hm dX12_value_49 ?_
        exact g_relE (by rw [if_neg (by omega)]) hdI2 hxI2
    · exfalso; omega
  · skip
    refine g_iconst hc dX12_value_5 ?_
    refine g_goto (tgt := 10) hc dX12_value_6 (by decide) ?_
    refine g_istore_3 hc dX12_value_10 rfl ?_
    refine g_iload_n hc dX12_value_11 rfl ?_
    refine g_if_eq (tgt := 32) hc dX12_value_12 (by decide) (show g32 _ from ⟨by decide, by decide⟩) (fun c5 => ?_) (fun c5 => ?_)
    · exfalso; omega
    · skip
      refine g_aldn hc dX12_value_15 rfl ?_
      refine g_getRk hc lk_X12_51 ca_0 (rc_0_5 hR) dX12_value_16 ?_
      refine g_getRvk hc lk_X12_118 ca_548 (rc_548_3 hR) dX12_value_19 ?_
      refine g_iload_n hc dX12_value_22 rfl ?_
      refine g_V1r hc (c_X4_hasFork w hR hxI2 hlb (by first | exact hI _ _ | exact hxI2 _ _ | exact hIa _ _ | exact hIb _ _ | exact g_b32 | exact g_and32 | assumption | exact ⟨by omega, by omega⟩)) my_X4_hasFork mv_X4_hasFork (la_0 hlb) rfl rfl lm_X12_153 rfl (by decide) (Nat.le_of_ble_eq_true rfl) hm dX12_value_23 ?_
      rw [show I2 (lb) 1 = I (lb) 1 from by rw [hsI2 _ (g_nl hlb (by omega) (by omega))]]
      refine g_ifb_ne (tgt := 50) hc dX12_value_26 (by decide)  (fun c6 => ?_) (fun c6 => ?_)
      · skip
        refine g_aldn hc dX12_value_50 rfl ?_
        refine g_getRk hc lk_X12_60 ca_0 (rc_0_6 hR) dX12_value_51 ?_
        refine g_V0 hc (c_X11_reckon w hR hlb hI hsI2 hxI2 hC) my_X11_reckon mv_X11_reckon ca_683 rfl rfl lm_X12_230 rfl (by decide) (Nat.le_of_ble_eq_true rfl) hm dX12_value_54 (fun r4 n4 I4 J4 R4 hp4 => ?_)
        obtain ⟨⟨rfl, rfl, hfI4, hxI4, rfl, rfl⟩, hVI4⟩ := hp4
        have hsI4 : g_off I I4 := fun k hk => (hfI4 k (fun q => hk (by omega))).trans (hsI2 k hk)
        have hdI4 : ∀ k : Nat, ¬ g_sc k → I4 k = I2 k := fun k hk => (hfI4 k (fun q => hk (by omega))).trans (hdI2 k hk)
        refine g_iload_n hc dX12_value_57 rfl ?_
        refine g_if_eq (tgt := 73) hc dX12_value_58 (by decide) (show g32 _ from ⟨by decide, by decide⟩) (fun c7 => ?_) (fun c7 => ?_)
        · exfalso; omega
        · skip
          refine g_aldn hc dX12_value_61 rfl ?_
          refine g_getRk hc lk_X12_60 ca_0 (rc_0_6 hR) dX12_value_62 ?_
          refine g_getRk hc lk_X12_233 ca_683 (rc_683_2 hR) dX12_value_65 ?_
          refine g_iload_n hc dX12_value_68 rfl ?_
          refine g_iald hc ca_685 (by decide) (by omega) (by omega) dX12_value_69 ?_
          refine g_goto (tgt := 82) hc dX12_value_70 (by decide) ?_
          refine g_iret hc hm dX12_value_82 ?_
          exact g_relE (by rw [if_pos (by omega), if_pos (by omega)]; exact (hVI4.2 f (by omega) (by omega)).1.symm) hdI4 hxI4
      · skip
        refine g_goto (tgt := 47) hc dX12_value_29 (by decide) ?_
        refine g_ldc (k := (-2000000000)) hc dX12_value_47 _ lc_X12_223 (by decide +kernel) ?_
        refine g_iret hc hm dX12_value_49 ?_
        exact g_relE (by rw [if_neg (by omega)]) hdI2 hxI2
set_option maxHeartbeats 4000000 in
set_option maxRecDepth 100000 in
/-- X12_fork -/
theorem c_X12_fork (w : g_W) {I : g_I} {J : g_J} {R : g_R} {lb tx : Nat} (hR : g_rf w R lb tx) (hlb : g_life lb) {I2 : g_I} (hI : ∀ k j, g32 (I k j)) (hsI2 : g_off I I2) (hxI2 : ∀ k j, g32 (I2 k j)) (hC : g_cin I lb) (hTb : I 0 12 = -1 ∨ (0 ≤ I 0 12 ∧ I 0 12 ≤ 2)) {f k : Int} (g1 : g32 f) (g2 : g32 k) : g_Met w g_n I2 J R yX12_fork cX12_fork 4 (some .int) 1 0 0 [(gvr w 0), (gvI f), (gvI k)] (fun rr nn II JJ RR => g_rel w (some (gvI (if (0 ≤ f ∧ f < I lb 1) ∧ 0 ≤ k ∧ k ≤ 5 then x_fk I lb f k else -1))) g_sc I2 J R rr nn II JJ RR) := by
  refine g_intro (own := RX12) [some (gvr w 0), some (gvI f), some (gvI k), none] (by decide +kernel) rfl (by decide) (Nat.le_of_ble_eq_true rfl) rfl (fun i v hv => g_args 1 i v hv rfl) (fun x hc hm => ?_)
  have hL := hC.1
  obtain ⟨hn0, hn1, hLs, hLf⟩ := id hL
  obtain ⟨-, hC1, hC2, hC3, hC4, hC5, hC6, hC7⟩ := id hC
  have hlb5 := hlb
  unfold g_life at hlb5
  have hdI2 : ∀ k : Nat, ¬ g_sc k → I2 k = I2 k := fun _ _ => rfl
  refine g_aldn hc dX12_fork_0 rfl ?_
  refine g_getRk hc lk_X12_51 ca_0 (rc_0_5 hR) dX12_fork_1 ?_
  refine g_getRvk hc lk_X12_118 ca_548 (rc_548_3 hR) dX12_fork_4 ?_
  refine g_astore_3 hc dX12_fork_7 rfl ?_
  refine g_aldn hc dX12_fork_8 rfl ?_
  refine g_iload_n hc dX12_fork_9 rfl ?_
  refine g_V1r hc (c_X4_hasFork w hR hxI2 hlb (by first | exact hI _ _ | exact hxI2 _ _ | exact hIa _ _ | exact hIb _ _ | exact g_b32 | exact g_and32 | assumption | exact ⟨by omega, by omega⟩)) my_X4_hasFork mv_X4_hasFork (la_0 hlb) rfl rfl lm_X12_153 rfl (by decide) (Nat.le_of_ble_eq_true rfl) hm dX12_fork_10 ?_
  rw [show I2 (lb) 1 = I (lb) 1 from by rw [hsI2 _ (g_nl hlb (by omega) (by omega))]]
  refine g_ifb_ne (tgt := 18) hc dX12_fork_13 (by decide)  (fun c1 => ?_) (fun c1 => ?_)
  · skip
    refine g_iload_n hc dX12_fork_18 rfl ?_
    rcases (show k < 0 ∨ 5 < k ∨ k = 0 ∨ k = 1 ∨ k = 2 ∨ k = 3 ∨ k = 4 ∨ k = 5 by omega) with hsw | hsw | hsw | hsw | hsw | hsw | hsw | hsw
    · skip
      refine g_tableOut (tgt := 103) hc dX12_fork_19 (by first | exact hI _ _ | exact hxI2 _ _ | exact hIa _ _ | exact hIb _ _ | exact g_b32 | exact g_and32 | assumption | exact ⟨by omega, by omega⟩) (by omega) (by decide) ?_
      refine g_iconst hc dX12_fork_103 ?_
      refine g_iret hc hm dX12_fork_104 ?_
      exact g_relE (by rw [if_neg (by omega)]) hdI2 hxI2
    · skip
      refine g_tableOut (tgt := 103) hc dX12_fork_19 (by first | exact hI _ _ | exact hxI2 _ _ | exact hIa _ _ | exact hIb _ _ | exact g_b32 | exact g_and32 | assumption | exact ⟨by omega, by omega⟩) (by omega) (by decide) ?_
      refine g_iconst hc dX12_fork_103 ?_
      refine g_iret hc hm dX12_fork_104 ?_
      exact g_relE (by rw [if_neg (by omega)]) hdI2 hxI2
    · skip
      refine g_tableIn (tgt := 56) (off := 37) hc dX12_fork_19 (by first | exact hI _ _ | exact hxI2 _ _ | exact hIa _ _ | exact hIb _ _ | exact g_b32 | exact g_and32 | assumption | exact ⟨by omega, by omega⟩) (by omega) (by omega) (by rw [hsw]; rfl) (by decide) ?_
      refine g_aldn hc dX12_fork_56 rfl ?_
      refine g_getRk hc lk_X12_156 (la_0 hlb) (rl_6 hR hlb) dX12_fork_57 ?_
      refine g_iload_n hc dX12_fork_60 rfl ?_
      refine g_ialde hc (la_41 hlb) (by decide) (by omega) (by omega) (congrFun (hsI2 _ (by omega)) _) dX12_fork_61 ?_
      refine g_iret hc hm dX12_fork_62 ?_
      exact g_relE (by rw [if_pos (by omega), hsw]; rfl) hdI2 hxI2
    · skip
      refine g_tableIn (tgt := 63) (off := 44) hc dX12_fork_19 (by first | exact hI _ _ | exact hxI2 _ _ | exact hIa _ _ | exact hIb _ _ | exact g_b32 | exact g_and32 | assumption | exact ⟨by omega, by omega⟩) (by omega) (by omega) (by rw [hsw]; rfl) (by decide) ?_
      refine g_aldn hc dX12_fork_63 rfl ?_
      refine g_getRk hc lk_X12_159 (la_0 hlb) (rl_7 hR hlb) dX12_fork_64 ?_
      refine g_iload_n hc dX12_fork_67 rfl ?_
      refine g_ialde hc (la_42 hlb) (by decide) (by omega) (by omega) (congrFun (hsI2 _ (by omega)) _) dX12_fork_68 ?_
      refine g_iret hc hm dX12_fork_69 ?_
      exact g_relE (by rw [if_pos (by omega), hsw]; rfl) hdI2 hxI2
    · skip
      refine g_tableIn (tgt := 70) (off := 51) hc dX12_fork_19 (by first | exact hI _ _ | exact hxI2 _ _ | exact hIa _ _ | exact hIb _ _ | exact g_b32 | exact g_and32 | assumption | exact ⟨by omega, by omega⟩) (by omega) (by omega) (by rw [hsw]; rfl) (by decide) ?_
      refine g_aldn hc dX12_fork_70 rfl ?_
      refine g_getRk hc lk_X12_162 (la_0 hlb) (rl_8 hR hlb) dX12_fork_71 ?_
      refine g_iload_n hc dX12_fork_74 rfl ?_
      refine g_ialde hc (la_43 hlb) (by decide) (by omega) (by omega) (congrFun (hsI2 _ (by omega)) _) dX12_fork_75 ?_
      refine g_iret hc hm dX12_fork_76 ?_
      exact g_relE (by rw [if_pos (by omega), hsw]; rfl) hdI2 hxI2
    · skip
      refine g_tableIn (tgt := 77) (off := 58) hc dX12_fork_19 (by first | exact hI _ _ | exact hxI2 _ _ | exact hIa _ _ | exact hIb _ _ | exact g_b32 | exact g_and32 | assumption | exact ⟨by omega, by omega⟩) (by omega) (by omega) (by rw [hsw]; rfl) (by decide) ?_
      refine g_aldn hc dX12_fork_77 rfl ?_
      refine g_getRk hc lk_X12_51 ca_0 (rc_0_5 hR) dX12_fork_78 ?_
      refine g_iload_n hc dX12_fork_81 rfl ?_
      refine g_V1r hc (c_X7_openMask w hR hxI2 (by omega)) my_X7_openMask mv_X7_openMask ca_548 rfl rfl lm_X12_165 rfl (by decide) (Nat.le_of_ble_eq_true rfl) hm dX12_fork_82 ?_
      rw [show I2 550 (4 + f) = I 550 (4 + f) from by rw [hsI2 550 (by decide)]]
      refine g_S1r hc (c_J6_bitCount_0f7a4 w) my_J6_bitCount_0f7a4 ms_J6_bitCount_0f7a4 lm_X12_168 rfl (by decide) (Nat.le_of_ble_eq_true rfl) hm dX12_fork_85 ?_
      refine g_iret hc hm dX12_fork_88 ?_
      exact g_relE (by rw [if_pos (by omega), hsw]; rfl) hdI2 hxI2
    · skip
      refine g_tableIn (tgt := 89) (off := 70) hc dX12_fork_19 (by first | exact hI _ _ | exact hxI2 _ _ | exact hIa _ _ | exact hIb _ _ | exact g_b32 | exact g_and32 | assumption | exact ⟨by omega, by omega⟩) (by omega) (by omega) (by rw [hsw]; rfl) (by decide) ?_
      refine g_aldn hc dX12_fork_89 rfl ?_
      refine g_getRk hc lk_X12_173 (la_0 hlb) (rl_9 hR hlb) dX12_fork_90 ?_
      refine g_iload_n hc dX12_fork_93 rfl ?_
      refine g_ialde hc (la_44 hlb) (by decide) (by omega) (by omega) (congrFun (hsI2 _ (by omega)) _) dX12_fork_94 ?_
      refine g_iret hc hm dX12_fork_95 ?_
      exact g_relE (by rw [if_pos (by omega), hsw]; rfl) hdI2 hxI2
    · skip
      refine g_tableIn (tgt := 96) (off := 77) hc dX12_fork_19 (by first | exact hI _ _ | exact hxI2 _ _ | exact hIa _ _ | exact hIb _ _ | exact g_b32 | exact g_and32 | assumption | exact ⟨by omega, by omega⟩) (by omega) (by omega) (by rw [hsw]; rfl) (by decide) ?_
      refine g_aldn hc dX12_fork_96 rfl ?_
      refine g_getRk hc lk_X12_176 (la_0 hlb) (rl_10 hR hlb) dX12_fork_97 ?_
      refine g_iload_n hc dX12_fork_100 rfl ?_
      refine g_ialde hc (la_45 hlb) (by decide) (by omega) (by omega) (congrFun (hsI2 _ (by omega)) _) dX12_fork_101 ?_
      refine g_iret hc hm dX12_fork_102 ?_
      exact g_relE (by rw [if_pos (by omega), hsw]; rfl) hdI2 hxI2
  · skip
    refine g_iconst hc dX12_fork_16 ?_
    refine g_iret hc hm dX12_fork_17 ?_
    exact g_relE (by rw [if_neg (by omega)]) hdI2 hxI2
set_option maxHeartbeats 4000000 in
set_option maxRecDepth 100000 in
/-- X12_branch -/
theorem c_X12_branch (w : g_W) {I : g_I} {J : g_J} {R : g_R} {lb tx : Nat} (hR : g_rf w R lb tx) (hlb : g_life lb) {I2 : g_I} (hI : ∀ k j, g32 (I k j)) (hsI2 : g_off I I2) (hxI2 : ∀ k j, g32 (I2 k j)) (hC : g_cin I lb) (hTb : I 0 12 = -1 ∨ (0 ≤ I 0 12 ∧ I 0 12 ≤ 2)) {f r k : Int} (g1 : g32 f) (g2 : g32 r) (g3 : g32 k) : g_Met w g_n I2 J R yX12_branch cX12_branch 5 (some .int) 2 0 0 [(gvr w 0), (gvI f), (gvI r), (gvI k)] (fun rr nn II JJ RR => g_rel w (some (gvI (if ((0 ≤ f ∧ f < I lb 1) ∧ 0 ≤ r ∧ r < I (lb + 43) f) ∧ 0 ≤ k ∧ k ≤ 6 then x_br I lb f r k else -1))) g_sc I2 J R rr nn II JJ RR) := by
  refine g_intro (own := RX12) [some (gvr w 0), some (gvI f), some (gvI r), some (gvI k), none] (by decide +kernel) rfl (by decide) (Nat.le_of_ble_eq_true rfl) rfl (fun i v hv => g_args 1 i v hv rfl) (fun x hc hm => ?_)
  have hL := hC.1
  obtain ⟨hn0, hn1, hLs, hLf⟩ := id hL
  obtain ⟨-, hC1, hC2, hC3, hC4, hC5, hC6, hC7⟩ := id hC
  have hlb5 := hlb
  unfold g_life at hlb5
  have hdI2 : ∀ k : Nat, ¬ g_sc k → I2 k = I2 k := fun _ _ => rfl
  refine g_aldn hc dX12_branch_0 rfl ?_
  refine g_getRk hc lk_X12_51 ca_0 (rc_0_5 hR) dX12_branch_1 ?_
  refine g_getRvk hc lk_X12_118 ca_548 (rc_548_3 hR) dX12_branch_4 ?_
  refine g_astore_4 hc dX12_branch_7 rfl ?_
  refine g_ald hc dX12_branch_9 rfl ?_
  refine g_iload_n hc dX12_branch_11 rfl ?_
  refine g_iload_n hc dX12_branch_12 rfl ?_
  refine g_V2r hc (c_X4_hasBranch w hR hxI2 hlb (by first | exact hI _ _ | exact hxI2 _ _ | exact hIa _ _ | exact hIb _ _ | exact g_b32 | exact g_and32 | assumption | exact ⟨by omega, by omega⟩) (by first | exact hI _ _ | exact hxI2 _ _ | exact hIa _ _ | exact hIb _ _ | exact g_b32 | exact g_and32 | assumption | exact ⟨by omega, by omega⟩) (by first | omega | (rw [hsI2 _ (g_nl hlb (by omega) (by omega))]; omega))) my_X4_hasBranch mv_X4_hasBranch (la_0 hlb) rfl rfl lm_X12_179 rfl (by decide) (Nat.le_of_ble_eq_true rfl) hm dX12_branch_13 ?_
  rw [show I2 lb 1 = I lb 1 from by rw [hsI2 _ (g_nl hlb (by omega) (by omega))]]
  rw [show I2 (lb + 43) f = I (lb + 43) f from by rw [hsI2 _ (g_nl hlb (by omega) (by omega))]]
  refine g_ifb_eq (tgt := 29) hc dX12_branch_16 (by decide)  (fun c1 => ?_) (fun c1 => ?_)
  · skip
    refine g_iconst hc dX12_branch_29 ?_
    refine g_iret hc hm dX12_branch_30 ?_
    exact g_relE (by rw [if_neg (by omega)]) hdI2 hxI2
  · skip
    obtain ⟨hk2, hk1, hy, hit⟩ := hLf f (by omega) (by omega)
    refine g_iload_n hc dX12_branch_19 rfl ?_
    refine g_if_lt (tgt := 29) hc dX12_branch_20 (by decide) (by first | exact hI _ _ | exact hxI2 _ _ | exact hIa _ _ | exact hIb _ _ | exact g_b32 | exact g_and32 | assumption | exact ⟨by omega, by omega⟩) (fun c2 => ?_) (fun c2 => ?_)
    · skip
      refine g_iconst hc dX12_branch_29 ?_
      refine g_iret hc hm dX12_branch_30 ?_
      exact g_relE (by rw [if_neg (by omega)]) hdI2 hxI2
    · skip
      refine g_iload_n hc dX12_branch_23 rfl ?_
      refine g_bipush hc dX12_branch_24 (by decide +kernel) ?_
      refine g_icmp_le (tgt := 31) hc dX12_branch_26 (by decide) (by first | exact hI _ _ | exact hxI2 _ _ | exact hIa _ _ | exact hIb _ _ | exact g_b32 | exact g_and32 | assumption | exact ⟨by omega, by omega⟩) (by first | exact hI _ _ | exact hxI2 _ _ | exact hIa _ _ | exact hIb _ _ | exact g_b32 | exact g_and32 | assumption | exact ⟨by omega, by omega⟩) (fun c3 => ?_) (fun c3 => ?_)
      · skip
        refine g_iload_n hc dX12_branch_31 rfl ?_
        refine g_iconst hc dX12_branch_32 ?_
        refine g_icmp_ne (tgt := 54) hc dX12_branch_33 (by decide) (by first | exact hI _ _ | exact hxI2 _ _ | exact hIa _ _ | exact hIb _ _ | exact g_b32 | exact g_and32 | assumption | exact ⟨by omega, by omega⟩) (by first | exact hI _ _ | exact hxI2 _ _ | exact hIa _ _ | exact hIb _ _ | exact g_b32 | exact g_and32 | assumption | exact ⟨by omega, by omega⟩) (fun c4 => ?_) (fun c4 => ?_)
        · skip
          refine g_iload_n hc dX12_branch_54 rfl ?_
          refine g_bipush hc dX12_branch_55 (by decide +kernel) ?_
          refine g_icmp_ne (tgt := 70) hc dX12_branch_57 (by decide) (by first | exact hI _ _ | exact hxI2 _ _ | exact hIa _ _ | exact hIb _ _ | exact g_b32 | exact g_and32 | assumption | exact ⟨by omega, by omega⟩) (by first | exact hI _ _ | exact hxI2 _ _ | exact hIa _ _ | exact hIb _ _ | exact g_b32 | exact g_and32 | assumption | exact ⟨by omega, by omega⟩) (fun c5 => ?_) (fun c5 => ?_)
          · skip
            refine g_ald hc dX12_branch_70 rfl ?_
            refine g_iload_n hc dX12_branch_72 rfl ?_
            refine g_iload_n hc dX12_branch_73 rfl ?_
            refine g_iload_n hc dX12_branch_74 rfl ?_
            refine g_V3r hc (c_X4_item w hR hxI2 hlb (by omega) (by omega) (by omega)) my_X4_item mv_X4_item (la_0 hlb) rfl rfl lm_X12_190 rfl (by decide) (Nat.le_of_ble_eq_true rfl) hm dX12_branch_75 ?_
            rw [show I2 (lb + 47 + (f * 4 + r).toNat) k = I (lb + 47 + (f * 4 + r).toNat) k from by rw [hsI2 _ (g_nl hlb (by omega) (by omega))]]
            refine g_iret hc hm dX12_branch_78 ?_
            exact g_relE (by rw [if_pos (by omega)]; unfold x_br; rw [if_neg (by omega), if_neg (by omega)]) hdI2 hxI2
          · skip
            refine g_ald hc dX12_branch_60 rfl ?_
            refine g_iload_n hc dX12_branch_62 rfl ?_
            refine g_iload_n hc dX12_branch_63 rfl ?_
            refine g_V2r hc (c_X4_target w hR hxI2 hlb (by omega) (by omega)) my_X4_target mv_X4_target (la_0 hlb) rfl rfl lm_X12_186 rfl (by decide) (Nat.le_of_ble_eq_true rfl) hm dX12_branch_64 ?_
            rw [show I2 (lb + 127) (f * 4 + r) = I (lb + 127) (f * 4 + r) from by rw [hsI2 _ (g_nl hlb (by omega) (by omega))]]
            refine g_goto (tgt := 78) hc dX12_branch_67 (by decide) ?_
            refine g_iret hc hm dX12_branch_78 ?_
            exact g_relE (by rw [if_pos (by omega)]; unfold x_br; rw [if_neg (by omega), if_pos (by omega)]) hdI2 hxI2
        · skip
          refine g_aldn hc dX12_branch_36 rfl ?_
          refine g_getRk hc lk_X12_51 ca_0 (rc_0_5 hR) dX12_branch_37 ?_
          refine g_iload_n hc dX12_branch_40 rfl ?_
          refine g_iload_n hc dX12_branch_41 rfl ?_
          refine g_V2r hc (c_X7_isOpen w hR hxI2 (by omega)) my_X7_isOpen mv_X7_isOpen ca_548 rfl rfl lm_X12_183 rfl (by decide) (Nat.le_of_ble_eq_true rfl) hm dX12_branch_42 ?_
          rw [show I2 550 (4 + f) = I 550 (4 + f) from by rw [hsI2 550 (by decide)]]
          refine g_ifb_eq (tgt := 52) hc dX12_branch_45 (by decide)  (fun c6 => ?_) (fun c6 => ?_)
          · skip
            refine g_iconst hc dX12_branch_52 ?_
            refine g_iret hc hm dX12_branch_53 ?_
            exact g_relE (by rw [if_pos (by omega)]; unfold x_br; rw [if_pos (by omega), g_b0 (by assumption)]) hdI2 hxI2
          · skip
            refine g_iconst hc dX12_branch_48 ?_
            refine g_goto (tgt := 53) hc dX12_branch_49 (by decide) ?_
            refine g_iret hc hm dX12_branch_53 ?_
            exact g_relE (by rw [if_pos (by omega)]; unfold x_br; rw [if_pos (by omega), g_b1 (by assumption)]) hdI2 hxI2
      · skip
        refine g_iconst hc dX12_branch_29 ?_
        refine g_iret hc hm dX12_branch_30 ?_
        exact g_relE (by rw [if_neg (by omega)]) hdI2 hxI2
set_option maxHeartbeats 4000000 in
set_option maxRecDepth 100000 in
/-- X12_can -/
theorem c_X12_can (w : g_W) {I : g_I} {J : g_J} {R : g_R} {lb tx : Nat} (hR : g_rf w R lb tx) (hlb : g_life lb) {I2 : g_I} (hI : ∀ k j, g32 (I k j)) (hsI2 : g_off I I2) (hxI2 : ∀ k j, g32 (I2 k j)) (hC : g_cin I lb) (hTb : I 0 12 = -1 ∨ (0 ≤ I 0 12 ∧ I 0 12 ≤ 2)) {k : Int} (g1 : g32 k) (hK : g_cok I) : g_Met w g_n I2 J R yX12_can cX12_can 2 (some .int) 8 0 0 [(gvr w 0), (gvI k)] (fun rr nn II JJ RR => g_rel w (some (gvI (if 0 ≤ I 0 12 ∧ 0 ≤ k ∧ k ≤ 1 then (if k = 0 then g_pos2 I lb else g_lkl I lb) else -1))) g_sc I2 J R rr nn II JJ RR) := by
  refine g_intro (own := RX12) [some (gvr w 0), some (gvI k)] (by decide +kernel) rfl (by decide) (Nat.le_of_ble_eq_true rfl) rfl (fun i v hv => g_args 0 i v hv rfl) (fun x hc hm => ?_)
  have hL := hC.1
  obtain ⟨hn0, hn1, hLs, hLf⟩ := id hL
  obtain ⟨-, hC1, hC2, hC3, hC4, hC5, hC6, hC7⟩ := id hC
  have hlb5 := hlb
  unfold g_life at hlb5
  have hdI2 : ∀ k : Nat, ¬ g_sc k → I2 k = I2 k := fun _ _ => rfl
  refine g_aldn hc dX12_can_0 rfl ?_
  refine g_getIe hc lk_X12_87 ca_0 12 rfl (congrFun (hsI2 _ (by decide)) _) dX12_can_1 ?_
  refine g_iconst hc dX12_can_4 ?_
  refine g_icmp_eq (tgt := 17) hc dX12_can_5 (by decide) (by first | exact hI _ _ | exact hxI2 _ _ | exact hIa _ _ | exact hIb _ _ | exact g_b32 | exact g_and32 | assumption | exact ⟨by omega, by omega⟩) (by first | exact hI _ _ | exact hxI2 _ _ | exact hIa _ _ | exact hIb _ _ | exact g_b32 | exact g_and32 | assumption | exact ⟨by omega, by omega⟩) (fun c1 => ?_) (fun c1 => ?_)
  · skip
    refine g_iconst hc dX12_can_17 ?_
    refine g_iret hc hm dX12_can_18 ?_
    exact g_relE (by rw [if_neg (by omega)]) hdI2 hxI2
  · skip
    refine g_iload_n hc dX12_can_8 rfl ?_
    refine g_if_lt (tgt := 17) hc dX12_can_9 (by decide) (by first | exact hI _ _ | exact hxI2 _ _ | exact hIa _ _ | exact hIb _ _ | exact g_b32 | exact g_and32 | assumption | exact ⟨by omega, by omega⟩) (fun c2 => ?_) (fun c2 => ?_)
    · skip
      refine g_iconst hc dX12_can_17 ?_
      refine g_iret hc hm dX12_can_18 ?_
      exact g_relE (by rw [if_neg (by omega)]) hdI2 hxI2
    · skip
      refine g_iload_n hc dX12_can_12 rfl ?_
      refine g_iconst hc dX12_can_13 ?_
      refine g_icmp_le (tgt := 19) hc dX12_can_14 (by decide) (by first | exact hI _ _ | exact hxI2 _ _ | exact hIa _ _ | exact hIb _ _ | exact g_b32 | exact g_and32 | assumption | exact ⟨by omega, by omega⟩) (by first | exact hI _ _ | exact hxI2 _ _ | exact hIa _ _ | exact hIb _ _ | exact g_b32 | exact g_and32 | assumption | exact ⟨by omega, by omega⟩) (fun c3 => ?_) (fun c3 => ?_)
      · skip
        refine g_iload_n hc dX12_can_19 rfl ?_
        refine g_if_ne (tgt := 33) hc dX12_can_20 (by decide) (by first | exact hI _ _ | exact hxI2 _ _ | exact hIa _ _ | exact hIb _ _ | exact g_b32 | exact g_and32 | assumption | exact ⟨by omega, by omega⟩) (fun c4 => ?_) (fun c4 => ?_)
        · skip
          refine g_aldn hc dX12_can_33 rfl ?_
          refine g_getRk hc lk_X12_76 ca_0 (rc_0_8 hR) dX12_can_34 ?_
          refine g_V0 hc (c_X2_likeliest w hR hlb hI hsI2 hxI2 hC hK) my_X2_likeliest mv_X2_likeliest ca_697 rfl rfl lm_X12_309 rfl (by decide) (Nat.le_of_ble_eq_true rfl) hm dX12_can_37 (fun r3 n3 I3 J3 R3 hp3 => ?_)
          obtain ⟨rfl, rfl, hfI3, hxI3, rfl, rfl⟩ := hp3
          have hsI3 : g_off I I3 := fun k hk => (hfI3 k (fun q => hk (by omega))).trans (hsI2 k hk)
          have hdI3 : ∀ k : Nat, ¬ g_sc k → I3 k = I2 k := fun k hk => (hfI3 k (fun q => hk (by omega))).trans (hdI2 k hk)
          refine g_iret hc hm dX12_can_40 ?_
          exact g_relE (by rw [if_pos (by omega), if_neg (by omega)]) hdI3 hxI3
        · skip
          refine g_aldn hc dX12_can_23 rfl ?_
          refine g_getRk hc lk_X12_76 ca_0 (rc_0_8 hR) dX12_can_24 ?_
          refine g_V0r hc (c_X2_possible w hR hlb hI hsI2 hxI2 hC hK) my_X2_possible mv_X2_possible ca_697 rfl rfl lm_X12_306 rfl (by decide) (Nat.le_of_ble_eq_true rfl) hm dX12_can_27 ?_
          refine g_goto (tgt := 40) hc dX12_can_30 (by decide) ?_
          refine g_iret hc hm dX12_can_40 ?_
          exact g_relE (by rw [if_pos (by omega), if_pos (by omega)]) hdI2 hxI2
      · skip
        refine g_iconst hc dX12_can_17 ?_
        refine g_iret hc hm dX12_can_18 ?_
        exact g_relE (by rw [if_neg (by omega)]) hdI2 hxI2
set_option maxHeartbeats 4000000 in
set_option maxRecDepth 100000 in
/-- X12_born -/
theorem c_X12_born (w : g_W) {I : g_I} {J : g_J} {R : g_R} {lb tx : Nat} (hR : g_rf w R lb tx) (hlb : g_life lb) {I2 : g_I} (hI : ∀ k j, g32 (I k j)) (hsI2 : g_off I I2) (hxI2 : ∀ k j, g32 (I2 k j)) (hC : g_cin I lb) (hTb : I 0 12 = -1 ∨ (0 ≤ I 0 12 ∧ I 0 12 ≤ 2)) {s : Int} (g1 : g32 s) (hB2 : 0 ≤ I 701 2 ∧ I 701 2 ≤ 60) : g_Met w g_n I2 J R yX12_born cX12_born 2 (some .int) 0 0 0 [(gvr w 0), (gvI s)] (fun rr nn II JJ RR => g_rel w (some (gvI (if 0 ≤ s ∧ s < I 701 2 then I 702 s else -1))) g_sc I2 J R rr nn II JJ RR) := by
  refine g_intro (own := RX12) [some (gvr w 0), some (gvI s)] (by decide +kernel) rfl (by decide) (Nat.le_of_ble_eq_true rfl) rfl (fun i v hv => g_args 0 i v hv rfl) (fun x hc hm => ?_)
  have hL := hC.1
  obtain ⟨hn0, hn1, hLs, hLf⟩ := id hL
  obtain ⟨-, hC1, hC2, hC3, hC4, hC5, hC6, hC7⟩ := id hC
  have hlb5 := hlb
  unfold g_life at hlb5
  have hdI2 : ∀ k : Nat, ¬ g_sc k → I2 k = I2 k := fun _ _ => rfl
  refine g_iload_n hc dX12_born_0 rfl ?_
  refine g_if_lt (tgt := 15) hc dX12_born_1 (by decide) (by first | exact hI _ _ | exact hxI2 _ _ | exact hIa _ _ | exact hIb _ _ | exact g_b32 | exact g_and32 | assumption | exact ⟨by omega, by omega⟩) (fun c1 => ?_) (fun c1 => ?_)
  · skip
    refine g_iconst hc dX12_born_15 ?_
    refine g_goto (tgt := 28) hc dX12_born_16 (by decide) ?_
    refine g_iret hc hm dX12_born_28 ?_
    exact g_relE (by rw [if_neg (by omega)]) hdI2 hxI2
  · skip
    refine g_iload_n hc dX12_born_4 rfl ?_
    refine g_aldn hc dX12_born_5 rfl ?_
    refine g_getRk hc lk_X12_83 ca_0 (rc_0_9 hR) dX12_born_6 ?_
    refine g_getIe hc lk_X12_330 ca_701 2 rfl (congrFun (hsI2 _ (by decide)) _) dX12_born_9 ?_
    refine g_icmp_lt (tgt := 19) hc dX12_born_12 (by decide) (by first | exact hI _ _ | exact hxI2 _ _ | exact hIa _ _ | exact hIb _ _ | exact g_b32 | exact g_and32 | assumption | exact ⟨by omega, by omega⟩) (by first | exact hI _ _ | exact hxI2 _ _ | exact hIa _ _ | exact hIb _ _ | exact g_b32 | exact g_and32 | assumption | exact ⟨by omega, by omega⟩) (fun c2 => ?_) (fun c2 => ?_)
    · skip
      refine g_aldn hc dX12_born_19 rfl ?_
      refine g_getRk hc lk_X12_83 ca_0 (rc_0_9 hR) dX12_born_20 ?_
      refine g_getRk hc lk_X12_333 ca_701 (rc_701_1 hR) dX12_born_23 ?_
      refine g_iload_n hc dX12_born_26 rfl ?_
      refine g_ialde hc ca_702 (by decide) (by omega) (by omega) (congrFun (hsI2 _ (by decide)) _) dX12_born_27 ?_
      refine g_iret hc hm dX12_born_28 ?_
      exact g_relE (by rw [if_pos (by omega)]) hdI2 hxI2
    · skip
      refine g_iconst hc dX12_born_15 ?_
      refine g_goto (tgt := 28) hc dX12_born_16 (by decide) ?_
      refine g_iret hc hm dX12_born_28 ?_
      exact g_relE (by rw [if_neg (by omega)]) hdI2 hxI2
set_option maxHeartbeats 4000000 in
set_option maxRecDepth 100000 in
/-- X12_count -/
theorem c_X12_count (w : g_W) {I : g_I} {J : g_J} {R : g_R} {lb tx : Nat} (hR : g_rf w R lb tx) (hlb : g_life lb) {I2 : g_I} (hI : ∀ k j, g32 (I k j)) (hsI2 : g_off I I2) (hxI2 : ∀ k j, g32 (I2 k j)) (hC : g_cin I lb) (hTb : I 0 12 = -1 ∨ (0 ≤ I 0 12 ∧ I 0 12 ≤ 2)) {k : Int} (g1 : g32 k) : g_Met w g_n I2 J R yX12_count cX12_count 2 (some .int) 4 0 0 [(gvr w 0), (gvI k)] (fun rr nn II JJ RR => g_rel w (some (gvI (x_cnt I lb k))) g_sc I2 J R rr nn II JJ RR) := by
  refine g_intro (own := RX12) [some (gvr w 0), some (gvI k)] (by decide +kernel) rfl (by decide) (Nat.le_of_ble_eq_true rfl) rfl (fun i v hv => g_args 0 i v hv rfl) (fun x hc hm => ?_)
  have hL := hC.1
  obtain ⟨hn0, hn1, hLs, hLf⟩ := id hL
  obtain ⟨-, hC1, hC2, hC3, hC4, hC5, hC6, hC7⟩ := id hC
  have hlb5 := hlb
  unfold g_life at hlb5
  have hdI2 : ∀ k : Nat, ¬ g_sc k → I2 k = I2 k := fun _ _ => rfl
  refine g_iload_n hc dX12_count_0 rfl ?_
  rcases (show k < 0 ∨ 13 < k ∨ k = 0 ∨ k = 1 ∨ k = 2 ∨ k = 3 ∨ k = 4 ∨ k = 5 ∨ k = 6 ∨ k = 7 ∨ k = 8 ∨ k = 9 ∨ k = 10 ∨ k = 11 ∨ k = 12 ∨ k = 13 by omega) with hsw | hsw | hsw | hsw | hsw | hsw | hsw | hsw | hsw | hsw | hsw | hsw | hsw | hsw | hsw | hsw
  · skip
    refine g_tableOut (tgt := 207) hc dX12_count_1 (by first | exact hI _ _ | exact hxI2 _ _ | exact hIa _ _ | exact hIb _ _ | exact g_b32 | exact g_and32 | assumption | exact ⟨by omega, by omega⟩) (by omega) (by decide) ?_
    refine g_ldc (k := (-2000000000)) hc dX12_count_207 _ lc_X12_223 (by decide +kernel) ?_
    refine g_iret hc hm dX12_count_209 ?_
    exact g_relE (by unfold x_cnt; rw [if_neg (by omega), if_neg (by omega), if_neg (by omega), if_neg (by omega), if_neg (by omega), if_neg (by omega), if_neg (by omega), if_neg (by omega), if_neg (by omega), if_neg (by omega), if_neg (by omega)]) hdI2 hxI2
  · skip
    refine g_tableOut (tgt := 207) hc dX12_count_1 (by first | exact hI _ _ | exact hxI2 _ _ | exact hIa _ _ | exact hIb _ _ | exact g_b32 | exact g_and32 | assumption | exact ⟨by omega, by omega⟩) (by omega) (by decide) ?_
    refine g_ldc (k := (-2000000000)) hc dX12_count_207 _ lc_X12_223 (by decide +kernel) ?_
    refine g_iret hc hm dX12_count_209 ?_
    exact g_relE (by unfold x_cnt; rw [if_neg (by omega), if_neg (by omega), if_neg (by omega), if_neg (by omega), if_neg (by omega), if_neg (by omega), if_neg (by omega), if_neg (by omega), if_neg (by omega), if_neg (by omega), if_neg (by omega)]) hdI2 hxI2
  · skip
    refine g_tableIn (tgt := 72) (off := 71) hc dX12_count_1 (by first | exact hI _ _ | exact hxI2 _ _ | exact hIa _ _ | exact hIb _ _ | exact g_b32 | exact g_and32 | assumption | exact ⟨by omega, by omega⟩) (by omega) (by omega) (by rw [hsw]; rfl) (by decide) ?_
    refine g_aldn hc dX12_count_72 rfl ?_
    refine g_getIe hc lk_X12_102 ca_0 10 rfl (congrFun (hsI2 _ (by decide)) _) dX12_count_73 ?_
    refine g_iret hc hm dX12_count_76 ?_
    exact g_relE (by rw [hsw]; rfl) hdI2 hxI2
  · skip
    refine g_tableIn (tgt := 77) (off := 76) hc dX12_count_1 (by first | exact hI _ _ | exact hxI2 _ _ | exact hIa _ _ | exact hIb _ _ | exact g_b32 | exact g_and32 | assumption | exact ⟨by omega, by omega⟩) (by omega) (by omega) (by rw [hsw]; rfl) (by decide) ?_
    refine g_aldn hc dX12_count_77 rfl ?_
    refine g_getIe hc lk_X12_87 ca_0 12 rfl (congrFun (hsI2 _ (by decide)) _) dX12_count_78 ?_
    refine g_iret hc hm dX12_count_81 ?_
    exact g_relE (by rw [hsw]; rfl) hdI2 hxI2
  · skip
    refine g_tableIn (tgt := 82) (off := 81) hc dX12_count_1 (by first | exact hI _ _ | exact hxI2 _ _ | exact hIa _ _ | exact hIb _ _ | exact g_b32 | exact g_and32 | assumption | exact ⟨by omega, by omega⟩) (by omega) (by omega) (by rw [hsw]; rfl) (by decide) ?_
    refine g_aldn hc dX12_count_82 rfl ?_
    refine g_getRk hc lk_X12_51 ca_0 (rc_0_5 hR) dX12_count_83 ?_
    refine g_getRvk hc lk_X12_118 ca_548 (rc_548_3 hR) dX12_count_86 ?_
    refine g_getIe hc lk_X12_122 (la_0 hlb) 0 rfl (congrFun (hsI2 _ (by omega)) _) dX12_count_89 ?_
    refine g_iret hc hm dX12_count_92 ?_
    exact g_relE (by rw [hsw]; rfl) hdI2 hxI2
  · skip
    refine g_tableIn (tgt := 93) (off := 92) hc dX12_count_1 (by first | exact hI _ _ | exact hxI2 _ _ | exact hIa _ _ | exact hIb _ _ | exact g_b32 | exact g_and32 | assumption | exact ⟨by omega, by omega⟩) (by omega) (by omega) (by rw [hsw]; rfl) (by decide) ?_
    refine g_aldn hc dX12_count_93 rfl ?_
    refine g_getRk hc lk_X12_51 ca_0 (rc_0_5 hR) dX12_count_94 ?_
    refine g_getRvk hc lk_X12_118 ca_548 (rc_548_3 hR) dX12_count_97 ?_
    refine g_getIe hc lk_X12_353 (la_0 hlb) 1 rfl (congrFun (hsI2 _ (by omega)) _) dX12_count_100 ?_
    refine g_iret hc hm dX12_count_103 ?_
    exact g_relE (by rw [hsw]; rfl) hdI2 hxI2
  · skip
    refine g_tableIn (tgt := 104) (off := 103) hc dX12_count_1 (by first | exact hI _ _ | exact hxI2 _ _ | exact hIa _ _ | exact hIb _ _ | exact g_b32 | exact g_and32 | assumption | exact ⟨by omega, by omega⟩) (by omega) (by omega) (by rw [hsw]; rfl) (by decide) ?_
    refine g_aldn hc dX12_count_104 rfl ?_
    refine g_getIe hc lk_X12_109 ca_0 11 rfl (congrFun (hsI2 _ (by decide)) _) dX12_count_105 ?_
    refine g_iret hc hm dX12_count_108 ?_
    exact g_relE (by rw [hsw]; rfl) hdI2 hxI2
  · skip
    refine g_tableIn (tgt := 109) (off := 108) hc dX12_count_1 (by first | exact hI _ _ | exact hxI2 _ _ | exact hIa _ _ | exact hIb _ _ | exact g_b32 | exact g_and32 | assumption | exact ⟨by omega, by omega⟩) (by omega) (by omega) (by rw [hsw]; rfl) (by decide) ?_
    refine g_aldn hc dX12_count_109 rfl ?_
    refine g_getRk hc lk_X12_10 ca_0 (rc_0_0 hR) dX12_count_110 ?_
    refine g_getIe hc lk_X12_95 ca_1 1 rfl (congrFun (hsI2 _ (by decide)) _) dX12_count_113 ?_
    refine g_iret hc hm dX12_count_116 ?_
    exact g_relE (by rw [hsw]; rfl) hdI2 hxI2
  · skip
    refine g_tableIn (tgt := 117) (off := 116) hc dX12_count_1 (by first | exact hI _ _ | exact hxI2 _ _ | exact hIa _ _ | exact hIb _ _ | exact g_b32 | exact g_and32 | assumption | exact ⟨by omega, by omega⟩) (by omega) (by omega) (by rw [hsw]; rfl) (by decide) ?_
    refine g_aldn hc dX12_count_117 rfl ?_
    refine g_getRk hc lk_X12_51 ca_0 (rc_0_5 hR) dX12_count_118 ?_
    refine g_V0r hc (c_X7_thereBits w hR hxI2 hlb (g_lok_cg hsI2 hlb hL)) my_X7_thereBits mv_X7_thereBits ca_548 rfl rfl lm_X12_343 rfl (by decide) (Nat.le_of_ble_eq_true rfl) hm dX12_count_121 ?_
    rw [show g_thb I2 lb = g_thb I lb from g_thb_cg hsI2 hlb hL]
    refine g_S1r hc (c_J6_bitCount_0f7a4 w) my_J6_bitCount_0f7a4 ms_J6_bitCount_0f7a4 lm_X12_168 rfl (by decide) (Nat.le_of_ble_eq_true rfl) hm dX12_count_124 ?_
    refine g_iret hc hm dX12_count_127 ?_
    exact g_relE (by rw [hsw]; rfl) hdI2 hxI2
  · skip
    refine g_tableIn (tgt := 128) (off := 127) hc dX12_count_1 (by first | exact hI _ _ | exact hxI2 _ _ | exact hIa _ _ | exact hIb _ _ | exact g_b32 | exact g_and32 | assumption | exact ⟨by omega, by omega⟩) (by omega) (by omega) (by rw [hsw]; rfl) (by decide) ?_
    refine g_aldn hc dX12_count_128 rfl ?_
    refine g_getRk hc lk_X12_51 ca_0 (rc_0_5 hR) dX12_count_129 ?_
    refine g_getRk hc lk_X12_200 ca_548 (rc_548_1 hR) dX12_count_132 ?_
    refine g_getRk hc lk_X12_212 ca_549 (rc_549_0 hR) dX12_count_135 ?_
    refine g_iconst hc dX12_count_138 ?_
    refine g_ialde hc ca_550 (by decide) (by omega) (by omega) (congrFun (hsI2 _ (by decide)) _) dX12_count_139 ?_
    refine g_iret hc hm dX12_count_140 ?_
    exact g_relE (by rw [hsw]; rfl) hdI2 hxI2
  · skip
    refine g_tableIn (tgt := 141) (off := 140) hc dX12_count_1 (by first | exact hI _ _ | exact hxI2 _ _ | exact hIa _ _ | exact hIb _ _ | exact g_b32 | exact g_and32 | assumption | exact ⟨by omega, by omega⟩) (by omega) (by omega) (by rw [hsw]; rfl) (by decide) ?_
    refine g_aldn hc dX12_count_141 rfl ?_
    refine g_getRk hc lk_X12_51 ca_0 (rc_0_5 hR) dX12_count_142 ?_
    refine g_getRk hc lk_X12_200 ca_548 (rc_548_1 hR) dX12_count_145 ?_
    refine g_getRk hc lk_X12_212 ca_549 (rc_549_0 hR) dX12_count_148 ?_
    refine g_iconst hc dX12_count_151 ?_
    refine g_ialde hc ca_550 (by decide) (by omega) (by omega) (congrFun (hsI2 _ (by decide)) _) dX12_count_152 ?_
    refine g_iret hc hm dX12_count_153 ?_
    exact g_relE (by rw [hsw]; rfl) hdI2 hxI2
  · skip
    refine g_tableIn (tgt := 154) (off := 153) hc dX12_count_1 (by first | exact hI _ _ | exact hxI2 _ _ | exact hIa _ _ | exact hIb _ _ | exact g_b32 | exact g_and32 | assumption | exact ⟨by omega, by omega⟩) (by omega) (by omega) (by rw [hsw]; rfl) (by decide) ?_
    refine g_aldn hc dX12_count_154 rfl ?_
    refine g_getRk hc lk_X12_51 ca_0 (rc_0_5 hR) dX12_count_155 ?_
    refine g_getRk hc lk_X12_200 ca_548 (rc_548_1 hR) dX12_count_158 ?_
    refine g_getRk hc lk_X12_212 ca_549 (rc_549_0 hR) dX12_count_161 ?_
    refine g_iconst hc dX12_count_164 ?_
    refine g_ialde hc ca_550 (by decide) (by omega) (by omega) (congrFun (hsI2 _ (by decide)) _) dX12_count_165 ?_
    refine g_iret hc hm dX12_count_166 ?_
    exact g_relE (by rw [hsw]; rfl) hdI2 hxI2
  · skip
    refine g_tableIn (tgt := 167) (off := 166) hc dX12_count_1 (by first | exact hI _ _ | exact hxI2 _ _ | exact hIa _ _ | exact hIb _ _ | exact g_b32 | exact g_and32 | assumption | exact ⟨by omega, by omega⟩) (by omega) (by omega) (by rw [hsw]; rfl) (by decide) ?_
    refine g_aldn hc dX12_count_167 rfl ?_
    refine g_getRk hc lk_X12_51 ca_0 (rc_0_5 hR) dX12_count_168 ?_
    refine g_getRk hc lk_X12_200 ca_548 (rc_548_1 hR) dX12_count_171 ?_
    refine g_getRk hc lk_X12_212 ca_549 (rc_549_0 hR) dX12_count_174 ?_
    refine g_iconst hc dX12_count_177 ?_
    refine g_ialde hc ca_550 (by decide) (by omega) (by omega) (congrFun (hsI2 _ (by decide)) _) dX12_count_178 ?_
    refine g_iret hc hm dX12_count_179 ?_
    exact g_relE (by rw [hsw]; rfl) hdI2 hxI2
  · skip
    refine g_tableIn (tgt := 180) (off := 179) hc dX12_count_1 (by first | exact hI _ _ | exact hxI2 _ _ | exact hIa _ _ | exact hIb _ _ | exact g_b32 | exact g_and32 | assumption | exact ⟨by omega, by omega⟩) (by omega) (by omega) (by rw [hsw]; rfl) (by decide) ?_
    refine g_aldn hc dX12_count_180 rfl ?_
    refine g_getRk hc lk_X12_76 ca_0 (rc_0_8 hR) dX12_count_181 ?_
    refine g_getIe hc lk_X12_356 ca_697 4 rfl (congrFun (hsI2 _ (by decide)) _) dX12_count_184 ?_
    refine g_iret hc hm dX12_count_187 ?_
    exact g_relE (by rw [hsw]; rfl) hdI2 hxI2
  · skip
    refine g_tableIn (tgt := 188) (off := 187) hc dX12_count_1 (by first | exact hI _ _ | exact hxI2 _ _ | exact hIa _ _ | exact hIb _ _ | exact g_b32 | exact g_and32 | assumption | exact ⟨by omega, by omega⟩) (by omega) (by omega) (by rw [hsw]; rfl) (by decide) ?_
    refine g_aldn hc dX12_count_188 rfl ?_
    refine g_getRk hc lk_X12_83 ca_0 (rc_0_9 hR) dX12_count_189 ?_
    refine g_getIe hc lk_X12_330 ca_701 2 rfl (congrFun (hsI2 _ (by decide)) _) dX12_count_192 ?_
    refine g_iret hc hm dX12_count_195 ?_
    exact g_relE (by rw [hsw]; rfl) hdI2 hxI2
  · skip
    refine g_tableIn (tgt := 196) (off := 195) hc dX12_count_1 (by first | exact hI _ _ | exact hxI2 _ _ | exact hIa _ _ | exact hIb _ _ | exact g_b32 | exact g_and32 | assumption | exact ⟨by omega, by omega⟩) (by omega) (by omega) (by rw [hsw]; rfl) (by decide) ?_
    refine g_aldn hc dX12_count_196 rfl ?_
    refine g_getRk hc lk_X12_51 ca_0 (rc_0_5 hR) dX12_count_197 ?_
    refine g_getRk hc lk_X12_200 ca_548 (rc_548_1 hR) dX12_count_200 ?_
    refine g_getIe hc lk_X12_359 ca_549 5 rfl (congrFun (hsI2 _ (by decide)) _) dX12_count_203 ?_
    refine g_iret hc hm dX12_count_206 ?_
    exact g_relE (by rw [hsw]; rfl) hdI2 hxI2
set_option maxHeartbeats 4000000 in
set_option maxRecDepth 100000 in
/-- X12_town -/
theorem c_X12_town (w : g_W) {I : g_I} {J : g_J} {R : g_R} {lb tx : Nat} (hR : g_rf w R lb tx) (hlb : g_life lb) {I2 : g_I} (hI : ∀ k j, g32 (I k j)) (hsI2 : g_off I I2) (hxI2 : ∀ k j, g32 (I2 k j)) (hC : g_cin I lb) (hTb : I 0 12 = -1 ∨ (0 ≤ I 0 12 ∧ I 0 12 ≤ 2)) {n sd s : Int} (g1 : g32 n) (g2 : g32 s) : g_Met w g_n I2 J R yX12_town cX12_town 5 (some .int) 8 0 0 [(gvr w 0), (gvI n), (gvL sd), (gvI s)] (fun rr nn II JJ RR => g_rel w (some (gvI (if (0 ≤ s ∧ s < I lb 0) ∧ 1 ≤ n ∧ n ≤ 99 then (g_hmn I lb s sd n.toNat).1 else -1))) g_sc I2 JJ R rr nn II JJ RR ∧ ∀ k : Nat, k ≠ 701 → JJ k = J k) := by
  refine g_intro (own := RX12) [some (gvr w 0), some (gvI n), some (gvL sd), none, some (gvI s)] (by decide +kernel) rfl (by decide) (Nat.le_of_ble_eq_true rfl) rfl (fun i v hv => g_args 0 i v hv rfl) (fun x hc hm => ?_)
  have hL := hC.1
  obtain ⟨hn0, hn1, hLs, hLf⟩ := id hL
  obtain ⟨-, hC1, hC2, hC3, hC4, hC5, hC6, hC7⟩ := id hC
  have hlb5 := hlb
  unfold g_life at hlb5
  have hdI2 : ∀ k : Nat, ¬ g_sc k → I2 k = I2 k := fun _ _ => rfl
  refine g_aldn hc dX12_town_0 rfl ?_
  refine g_getRk hc lk_X12_51 ca_0 (rc_0_5 hR) dX12_town_1 ?_
  refine g_getRvk hc lk_X12_118 ca_548 (rc_548_3 hR) dX12_town_4 ?_
  refine g_iload hc dX12_town_7 rfl ?_
  refine g_V1r hc (c_X4_hasLeaf w hR hxI2 hlb (by first | exact hI _ _ | exact hxI2 _ _ | exact hIa _ _ | exact hIb _ _ | exact g_b32 | exact g_and32 | assumption | exact ⟨by omega, by omega⟩)) my_X4_hasLeaf mv_X4_hasLeaf (la_0 hlb) rfl rfl lm_X12_125 rfl (by decide) (Nat.le_of_ble_eq_true rfl) hm dX12_town_9 ?_
  rw [show I2 (lb) 0 = I (lb) 0 from by rw [hsI2 _ (g_nl hlb (by omega) (by omega))]]
  refine g_ifb_eq (tgt := 26) hc dX12_town_12 (by decide)  (fun c1 => ?_) (fun c1 => ?_)
  · skip
    refine g_iconst hc dX12_town_26 ?_
    refine g_iret hc hm dX12_town_27 ?_
    exact ⟨g_relE (by rw [if_neg (by omega)]) hdI2 hxI2, fun _ _ => rfl⟩
  · skip
    refine g_iload_n hc dX12_town_15 rfl ?_
    refine g_iconst hc dX12_town_16 ?_
    refine g_icmp_lt (tgt := 26) hc dX12_town_17 (by decide) (by first | exact hI _ _ | exact hxI2 _ _ | exact hIa _ _ | exact hIb _ _ | exact g_b32 | exact g_and32 | assumption | exact ⟨by omega, by omega⟩) (by first | exact hI _ _ | exact hxI2 _ _ | exact hIa _ _ | exact hIb _ _ | exact g_b32 | exact g_and32 | assumption | exact ⟨by omega, by omega⟩) (fun c2 => ?_) (fun c2 => ?_)
    · skip
      refine g_iconst hc dX12_town_26 ?_
      refine g_iret hc hm dX12_town_27 ?_
      exact ⟨g_relE (by rw [if_neg (by omega)]) hdI2 hxI2, fun _ _ => rfl⟩
    · skip
      refine g_iload_n hc dX12_town_20 rfl ?_
      refine g_bipush hc dX12_town_21 (by decide +kernel) ?_
      refine g_icmp_le (tgt := 28) hc dX12_town_23 (by decide) (by first | exact hI _ _ | exact hxI2 _ _ | exact hIa _ _ | exact hIb _ _ | exact g_b32 | exact g_and32 | assumption | exact ⟨by omega, by omega⟩) (by first | exact hI _ _ | exact hxI2 _ _ | exact hIa _ _ | exact hIb _ _ | exact g_b32 | exact g_and32 | assumption | exact ⟨by omega, by omega⟩) (fun c3 => ?_) (fun c3 => ?_)
      · skip
        refine g_aldn hc dX12_town_28 rfl ?_
        refine g_getRk hc lk_X12_83 ca_0 (rc_0_9 hR) dX12_town_29 ?_
        refine g_iload_n hc dX12_town_32 rfl ?_
        refine g_lload_n hc dX12_town_33 rfl ?_
        refine g_iload hc dX12_town_34 rfl ?_
        refine g_V3 hc (c_X0_howMany w hR hlb hI hsI2 hxI2 hC (by omega) (by first | exact hI _ _ | exact hxI2 _ _ | exact hIa _ _ | exact hIb _ _ | exact g_b32 | exact g_and32 | assumption | exact ⟨by omega, by omega⟩)) my_X0_howMany mv_X0_howMany ca_701 rfl rfl lm_X12_336 rfl (by decide) (Nat.le_of_ble_eq_true rfl) hm dX12_town_36 (fun r3 n3 I3 J3 R3 hp3 => ?_)
        obtain ⟨⟨rfl, rfl, hfI3, hxI3, -, rfl⟩, hJ3, hK3⟩ := hp3
        have hsI3 : g_off I I3 := fun k hk => (hfI3 k (fun q => hk (by omega))).trans (hsI2 k hk)
        have hdI3 : ∀ k : Nat, ¬ g_sc k → I3 k = I2 k := fun k hk => (hfI3 k (fun q => hk (by omega))).trans (hdI2 k hk)
        refine g_iret hc hm dX12_town_39 ?_
        exact ⟨g_relE (by rw [if_pos (by omega)]) hdI3 hxI3, hK3⟩
      · skip
        refine g_iconst hc dX12_town_26 ?_
        refine g_iret hc hm dX12_town_27 ?_
        exact ⟨g_relE (by rw [if_neg (by omega)]) hdI2 hxI2, fun _ _ => rfl⟩
set_option maxHeartbeats 4000000 in
set_option maxRecDepth 100000 in
/-- X12_isCode -/
theorem c_X12_isCode (w : g_W) {I : g_I} {J : g_J} {R : g_R} {lb tx : Nat} (hR : g_rf w R lb tx) (hlb : g_life lb) (hI : ∀ k j, g32 (I k j)) (hC : g_cin I lb) (hTb : I 0 12 = -1 ∨ (0 ≤ I 0 12 ∧ I 0 12 ≤ 2)) {s : Int} (g1 : g32 s) (hLv : 0 ≤ I 0 10 ∧ I 0 10 ≤ 3) (hLL : ∀ jj : Int, 0 ≤ jj → jj < I 0 10 → g_lok I (4 + 128 * jj.toNat)) : g_Met w g_n I J R yX12_isCode cX12_isCode 2 (some .boolean) 1 0 0 [(gvr w 0), (gvI s)] (g_post (some (gvI (g_b (0 ≤ s ∧ s.tdiv 100 < I 0 10 ∧ s.tmod 100 < I (4 + 128 * (s.tdiv 100).toNat) 0)))) g_n I J R) := by
  refine g_intro (own := RX12) [some (gvr w 0), some (gvI s)] (by decide +kernel) rfl (by decide) (Nat.le_of_ble_eq_true rfl) rfl (fun i v hv => g_args 0 i v hv rfl) (fun x hc hm => ?_)
  have hsI : g_off I I := g_off_rf
  have hxI := hI
  have hL := hC.1
  obtain ⟨hn0, hn1, hLs, hLf⟩ := id hL
  obtain ⟨-, hC1, hC2, hC3, hC4, hC5, hC6, hC7⟩ := id hC
  have hlb5 := hlb
  unfold g_life at hlb5
  obtain ⟨g1a, g1b⟩ := id g1
  refine g_iload_n hc dX12_isCode_0 rfl ?_
  refine g_if_lt (tgt := 38) hc dX12_isCode_1 (by decide) (by first | exact hI _ _ | exact hxI2 _ _ | exact hIa _ _ | exact hIb _ _ | exact g_b32 | exact g_and32 | assumption | exact ⟨by omega, by omega⟩) (fun c1 => ?_) (fun c1 => ?_)
  · skip
    refine g_iconst hc dX12_isCode_38 ?_
    refine g_zret hc hm (by first | exact g_b01 | omega) dX12_isCode_39 ?_
    first | (exfalso; omega) | (exfalso; omega) | exact g_postE (by rw [g_b1 (by omega)]) | exact g_postE (by rw [g_b0 (fun z => by omega)])
  · skip
    have hu : (0 ≤ s.tdiv 100 ∧ s.tdiv 100 ≤ s) ∧ 0 ≤ s.tmod 100 ∧ s.tmod 100 < 100 := by
      rw [Int.tdiv_eq_ediv_of_nonneg (by omega), Int.tmod_eq_emod_of_nonneg (by omega)]
      omega
    refine g_iload_n hc dX12_isCode_4 rfl ?_
    refine g_bipush hc dX12_isCode_5 (by decide +kernel) ?_
    refine g_idiv hc dX12_isCode_7 (by first | exact hI _ _ | exact hxI2 _ _ | exact hIa _ _ | exact hIb _ _ | exact g_b32 | exact g_and32 | assumption | exact ⟨by omega, by omega⟩) (by first | exact hI _ _ | exact hxI2 _ _ | exact hIa _ _ | exact hIb _ _ | exact g_b32 | exact g_and32 | assumption | exact ⟨by omega, by omega⟩) (by omega) ?_
    refine g_aldn hc dX12_isCode_8 rfl ?_
    refine g_getI' hc lk_X12_102 ca_0 10 rfl dX12_isCode_9 ?_
    refine g_icmp_ge (tgt := 38) hc dX12_isCode_12 (by decide) (by first | exact hI _ _ | exact hxI2 _ _ | exact hIa _ _ | exact hIb _ _ | exact g_b32 | exact g_and32 | assumption | exact ⟨by omega, by omega⟩) (by first | exact hI _ _ | exact hxI2 _ _ | exact hIa _ _ | exact hIb _ _ | exact g_b32 | exact g_and32 | assumption | exact ⟨by omega, by omega⟩) (fun c2 => ?_) (fun c2 => ?_)
    · skip
      refine g_iconst hc dX12_isCode_38 ?_
      refine g_zret hc hm (by first | exact g_b01 | omega) dX12_isCode_39 ?_
      first | (exfalso; omega) | (exfalso; omega) | exact g_postE (by rw [g_b1 (by omega)]) | exact g_postE (by rw [g_b0 (fun z => by omega)])
    · skip
      refine g_aldn hc dX12_isCode_15 rfl ?_
      refine g_getRk hc lk_X12_18 ca_0 (rc_0_1 hR) dX12_isCode_16 ?_
      refine g_iload_n hc dX12_isCode_19 rfl ?_
      refine g_bipush hc dX12_isCode_20 (by decide +kernel) ?_
      refine g_idiv hc dX12_isCode_22 (by first | exact hI _ _ | exact hxI2 _ _ | exact hIa _ _ | exact hIb _ _ | exact g_b32 | exact g_and32 | assumption | exact ⟨by omega, by omega⟩) (by first | exact hI _ _ | exact hxI2 _ _ | exact hIa _ _ | exact hIb _ _ | exact g_b32 | exact g_and32 | assumption | exact ⟨by omega, by omega⟩) (by omega) ?_
      refine g_aaldk hc ca_3 (by decide) rfl rfl (by decide) (by omega) (by omega) (ra_3 hR (by omega) (by omega)) dX12_isCode_23 ?_
      refine g_iload_n hc dX12_isCode_24 rfl ?_
      refine g_bipush hc dX12_isCode_25 (by decide +kernel) ?_
      refine g_irem hc dX12_isCode_27 (by first | exact hI _ _ | exact hxI2 _ _ | exact hIa _ _ | exact hIb _ _ | exact g_b32 | exact g_and32 | assumption | exact ⟨by omega, by omega⟩) (by first | exact hI _ _ | exact hxI2 _ _ | exact hIa _ _ | exact hIb _ _ | exact g_b32 | exact g_and32 | assumption | exact ⟨by omega, by omega⟩) (by omega) ?_
      refine g_V1r hc (c_X4_hasLeaf w hR hI (gl_of (i := s.tdiv 100) (by omega) (by omega)) (by first | exact hI _ _ | exact hxI2 _ _ | exact hIa _ _ | exact hIb _ _ | exact g_b32 | exact g_and32 | assumption | exact ⟨by omega, by omega⟩)) my_X4_hasLeaf mv_X4_hasLeaf (la_0 (gl_of (i := s.tdiv 100) (by omega) (by omega))) rfl rfl lm_X12_125 rfl (by decide) (Nat.le_of_ble_eq_true rfl) hm dX12_isCode_28 ?_
      refine g_ifb_eq (tgt := 38) hc dX12_isCode_31 (by decide)  (fun c3 => ?_) (fun c3 => ?_)
      · skip
        refine g_iconst hc dX12_isCode_38 ?_
        refine g_zret hc hm (by first | exact g_b01 | omega) dX12_isCode_39 ?_
        first | (exfalso; omega) | (exfalso; omega) | exact g_postE (by rw [g_b1 (by omega)]) | exact g_postE (by rw [g_b0 (fun z => by omega)])
      · skip
        refine g_iconst hc dX12_isCode_34 ?_
        refine g_goto (tgt := 39) hc dX12_isCode_35 (by decide) ?_
        refine g_zret hc hm (by first | exact g_b01 | omega) dX12_isCode_39 ?_
        first | (exfalso; omega) | (exfalso; omega) | exact g_postE (by rw [g_b1 (by omega)]) | exact g_postE (by rw [g_b0 (fun z => by omega)])
set_option maxHeartbeats 4000000 in
set_option maxRecDepth 100000 in
/-- X12_cross -/
theorem c_X12_cross (w : g_W) {I : g_I} {J : g_J} {R : g_R} {lb tx : Nat} (hR : g_rf w R lb tx) (hlb : g_life lb) (hI : ∀ k j, g32 (I k j)) (hC : g_cin I lb) (hTb : I 0 12 = -1 ∨ (0 ≤ I 0 12 ∧ I 0 12 ≤ 2)) {s i : Int} (g1 : g32 s) (g2 : g32 i) (hLv : 0 ≤ I 0 10 ∧ I 0 10 ≤ 3) (hLL : ∀ jj : Int, 0 ≤ jj → jj < I 0 10 → g_lok I (4 + 128 * jj.toNat)) : g_Met w g_n I J R yX12_cross cX12_cross 3 (some .int) 3 0 0 [(gvr w 0), (gvI s), (gvI i)] (g_post (some (gvI (if ((0 ≤ s ∧ s.tdiv 100 < I 0 10 ∧ s.tmod 100 < I (4 + 128 * (s.tdiv 100).toNat) 0) ∧ 0 ≤ i ∧ i.tdiv 100 < I 0 10 ∧ i.tmod 100 < I (4 + 128 * (i.tdiv 100).toNat) 0) ∧ ¬ s.tdiv 100 = i.tdiv 100 then g_crs I (4 + 128 * (s.tdiv 100).toNat) (4 + 128 * (i.tdiv 100).toNat) (s.tmod 100) (i.tmod 100) else -1))) g_n I J R) := by
  refine g_intro (own := RX12) [some (gvr w 0), some (gvI s), some (gvI i)] (by decide +kernel) rfl (by decide) (Nat.le_of_ble_eq_true rfl) rfl (fun i v hv => g_args 0 i v hv rfl) (fun x hc hm => ?_)
  have hsI : g_off I I := g_off_rf
  have hxI := hI
  have hL := hC.1
  obtain ⟨hn0, hn1, hLs, hLf⟩ := id hL
  obtain ⟨-, hC1, hC2, hC3, hC4, hC5, hC6, hC7⟩ := id hC
  have hlb5 := hlb
  unfold g_life at hlb5
  obtain ⟨g1a, g1b⟩ := id g1
  obtain ⟨g2a, g2b⟩ := id g2
  refine g_aldn hc dX12_cross_0 rfl ?_
  refine g_iload_n hc dX12_cross_1 rfl ?_
  refine g_V1r hc (c_X12_isCode w hR hlb hI hC hTb (by first | assumption | exact hI _ _ | exact ⟨by omega, by omega⟩) hLv hLL) my_X12_isCode mv_X12_isCode ca_0 rfl rfl lm_X12_312 rfl (by decide) (Nat.le_of_ble_eq_true rfl) hm dX12_cross_2 ?_
  refine g_ifb_eq (tgt := 27) hc dX12_cross_5 (by decide)  (fun c1 => ?_) (fun c1 => ?_)
  · skip
    refine g_iconst hc dX12_cross_27 ?_
    refine g_iret hc hm dX12_cross_28 ?_
    exact ⟨by rw [if_neg (fun z => by omega)], rfl, rfl, rfl, rfl⟩
  · skip
    have hu : (0 ≤ s.tdiv 100 ∧ s.tdiv 100 ≤ s) ∧ 0 ≤ s.tmod 100 ∧ s.tmod 100 < 100 := by
      rw [Int.tdiv_eq_ediv_of_nonneg (by omega), Int.tmod_eq_emod_of_nonneg (by omega)]
      omega
    refine g_aldn hc dX12_cross_8 rfl ?_
    refine g_iload_n hc dX12_cross_9 rfl ?_
    refine g_V1r hc (c_X12_isCode w hR hlb hI hC hTb (by first | assumption | exact hI _ _ | exact ⟨by omega, by omega⟩) hLv hLL) my_X12_isCode mv_X12_isCode ca_0 rfl rfl lm_X12_312 rfl (by decide) (Nat.le_of_ble_eq_true rfl) hm dX12_cross_10 ?_
    refine g_ifb_eq (tgt := 27) hc dX12_cross_13 (by decide)  (fun c2 => ?_) (fun c2 => ?_)
    · skip
      refine g_iconst hc dX12_cross_27 ?_
      refine g_iret hc hm dX12_cross_28 ?_
      exact ⟨by rw [if_neg (fun z => by omega)], rfl, rfl, rfl, rfl⟩
    · skip
      have hv : (0 ≤ i.tdiv 100 ∧ i.tdiv 100 ≤ i) ∧ 0 ≤ i.tmod 100 ∧ i.tmod 100 < 100 := by
        rw [Int.tdiv_eq_ediv_of_nonneg (by omega), Int.tmod_eq_emod_of_nonneg (by omega)]
        omega
      refine g_iload_n hc dX12_cross_16 rfl ?_
      refine g_bipush hc dX12_cross_17 (by decide +kernel) ?_
      refine g_idiv hc dX12_cross_19 (by first | exact hI _ _ | exact hxI2 _ _ | exact hIa _ _ | exact hIb _ _ | exact g_b32 | exact g_and32 | assumption | exact ⟨by omega, by omega⟩) (by first | exact hI _ _ | exact hxI2 _ _ | exact hIa _ _ | exact hIb _ _ | exact g_b32 | exact g_and32 | assumption | exact ⟨by omega, by omega⟩) (by omega) ?_
      refine g_iload_n hc dX12_cross_20 rfl ?_
      refine g_bipush hc dX12_cross_21 (by decide +kernel) ?_
      refine g_idiv hc dX12_cross_23 (by first | exact hI _ _ | exact hxI2 _ _ | exact hIa _ _ | exact hIb _ _ | exact g_b32 | exact g_and32 | assumption | exact ⟨by omega, by omega⟩) (by first | exact hI _ _ | exact hxI2 _ _ | exact hIa _ _ | exact hIb _ _ | exact g_b32 | exact g_and32 | assumption | exact ⟨by omega, by omega⟩) (by omega) ?_
      refine g_icmp_ne (tgt := 29) hc dX12_cross_24 (by decide) (by exact ⟨by omega, by omega⟩) (by exact ⟨by omega, by omega⟩) (fun c3 => ?_) (fun c3 => ?_)
      · skip
        refine g_aldn hc dX12_cross_29 rfl ?_
        refine g_getRk hc lk_X12_18 ca_0 (rc_0_1 hR) dX12_cross_30 ?_
        refine g_iload_n hc dX12_cross_33 rfl ?_
        refine g_bipush hc dX12_cross_34 (by decide +kernel) ?_
        refine g_idiv hc dX12_cross_36 (by first | exact hI _ _ | exact hxI2 _ _ | exact hIa _ _ | exact hIb _ _ | exact g_b32 | exact g_and32 | assumption | exact ⟨by omega, by omega⟩) (by first | exact hI _ _ | exact hxI2 _ _ | exact hIa _ _ | exact hIb _ _ | exact g_b32 | exact g_and32 | assumption | exact ⟨by omega, by omega⟩) (by omega) ?_
        refine g_aaldk hc ca_3 (by decide) rfl rfl (by decide) (by omega) (by omega) (ra_3 hR (by omega) (by omega)) dX12_cross_37 ?_
        refine g_iload_n hc dX12_cross_38 rfl ?_
        refine g_bipush hc dX12_cross_39 (by decide +kernel) ?_
        refine g_irem hc dX12_cross_41 (by first | exact hI _ _ | exact hxI2 _ _ | exact hIa _ _ | exact hIb _ _ | exact g_b32 | exact g_and32 | assumption | exact ⟨by omega, by omega⟩) (by first | exact hI _ _ | exact hxI2 _ _ | exact hIa _ _ | exact hIb _ _ | exact g_b32 | exact g_and32 | assumption | exact ⟨by omega, by omega⟩) (by omega) ?_
        refine g_aldn hc dX12_cross_42 rfl ?_
        refine g_getRk hc lk_X12_18 ca_0 (rc_0_1 hR) dX12_cross_43 ?_
        refine g_iload_n hc dX12_cross_46 rfl ?_
        refine g_bipush hc dX12_cross_47 (by decide +kernel) ?_
        refine g_idiv hc dX12_cross_49 (by first | exact hI _ _ | exact hxI2 _ _ | exact hIa _ _ | exact hIb _ _ | exact g_b32 | exact g_and32 | assumption | exact ⟨by omega, by omega⟩) (by first | exact hI _ _ | exact hxI2 _ _ | exact hIa _ _ | exact hIb _ _ | exact g_b32 | exact g_and32 | assumption | exact ⟨by omega, by omega⟩) (by omega) ?_
        refine g_aaldk hc ca_3 (by decide) rfl rfl (by decide) (by omega) (by omega) (ra_3 hR (by omega) (by omega)) dX12_cross_50 ?_
        refine g_iload_n hc dX12_cross_51 rfl ?_
        refine g_bipush hc dX12_cross_52 (by decide +kernel) ?_
        refine g_irem hc dX12_cross_54 (by first | exact hI _ _ | exact hxI2 _ _ | exact hIa _ _ | exact hIb _ _ | exact g_b32 | exact g_and32 | assumption | exact ⟨by omega, by omega⟩) (by first | exact hI _ _ | exact hxI2 _ _ | exact hIa _ _ | exact hIb _ _ | exact g_b32 | exact g_and32 | assumption | exact ⟨by omega, by omega⟩) (by omega) ?_
        have hL := hLL (s.tdiv 100) (by omega) (by omega)
        have hL2 := hLL (i.tdiv 100) (by omega) (by omega)
        refine g_S4r hc (c_X2_crossing w hR hI (gl_of (i := s.tdiv 100) (by omega) (by omega)) (gl_of (i := i.tdiv 100) (by omega) (by omega)) hL hL2 (by omega) (by omega)) my_X2_crossing ms_X2_crossing lm_X12_315 rfl (by decide) (Nat.le_of_ble_eq_true rfl) hm dX12_cross_55 ?_
        refine g_iret hc hm dX12_cross_58 ?_
        exact ⟨by rw [if_pos (by omega)], rfl, rfl, rfl, rfl⟩
      · skip
        refine g_iconst hc dX12_cross_27 ?_
        refine g_iret hc hm dX12_cross_28 ?_
        exact ⟨by rw [if_neg (fun z => by omega)], rfl, rfl, rfl, rfl⟩
set_option maxHeartbeats 4000000 in
set_option maxRecDepth 100000 in
/-- X12_meetings -/
theorem c_X12_meetings (w : g_W) {I : g_I} {J : g_J} {R : g_R} {lb tx : Nat} (hR : g_rf w R lb tx) (hlb : g_life lb) (hI : ∀ k j, g32 (I k j)) (hC : g_cin I lb) (hTb : I 0 12 = -1 ∨ (0 ≤ I 0 12 ∧ I 0 12 ≤ 2)) {j k m : Int} (g1 : g32 j) (g2 : g32 k) (g3 : g32 m) (hLv : 0 ≤ I 0 10 ∧ I 0 10 ≤ 3) (hLL : ∀ jj : Int, 0 ≤ jj → jj < I 0 10 → g_lok I (4 + 128 * jj.toNat)) : g_Met w g_n I J R yX12_meetings cX12_meetings 4 (some .int) 5 0 0 [(gvr w 0), (gvI j), (gvI k), (gvI m)] (g_post (some (gvI (if ((0 ≤ j ∧ j < I 0 10) ∧ 0 ≤ k ∧ k < I 0 10) ∧ ¬ j = k ∧ 0 ≤ m ∧ m ≤ 1 then (if m = 0 then g_prs I (4 + 128 * j.toNat) (4 + 128 * k.toNat) else (g_cmx I (4 + 128 * j.toNat) (4 + 128 * k.toNat) (I (4 + 128 * j.toNat) 0).toNat).1) else -1))) g_n I J R) := by
  refine g_intro (own := RX12) [some (gvr w 0), some (gvI j), some (gvI k), some (gvI m)] (by decide +kernel) rfl (by decide) (Nat.le_of_ble_eq_true rfl) rfl (fun i v hv => g_args 0 i v hv rfl) (fun x hc hm => ?_)
  have hsI : g_off I I := g_off_rf
  have hxI := hI
  have hL := hC.1
  obtain ⟨hn0, hn1, hLs, hLf⟩ := id hL
  obtain ⟨-, hC1, hC2, hC3, hC4, hC5, hC6, hC7⟩ := id hC
  have hlb5 := hlb
  unfold g_life at hlb5
  refine g_iload_n hc dX12_meetings_0 rfl ?_
  refine g_if_lt (tgt := 38) hc dX12_meetings_1 (by decide) (by first | exact hI _ _ | exact hxI2 _ _ | exact hIa _ _ | exact hIb _ _ | exact g_b32 | exact g_and32 | assumption | exact ⟨by omega, by omega⟩) (fun c1 => ?_) (fun c1 => ?_)
  · skip
    refine g_iconst hc dX12_meetings_38 ?_
    refine g_iret hc hm dX12_meetings_39 ?_
    exact ⟨by rw [if_neg (fun z => by omega)], rfl, rfl, rfl, rfl⟩
  · skip
    refine g_iload_n hc dX12_meetings_4 rfl ?_
    refine g_aldn hc dX12_meetings_5 rfl ?_
    refine g_getI' hc lk_X12_102 ca_0 10 rfl dX12_meetings_6 ?_
    refine g_icmp_ge (tgt := 38) hc dX12_meetings_9 (by decide) (by first | exact hI _ _ | exact hxI2 _ _ | exact hIa _ _ | exact hIb _ _ | exact g_b32 | exact g_and32 | assumption | exact ⟨by omega, by omega⟩) (by first | exact hI _ _ | exact hxI2 _ _ | exact hIa _ _ | exact hIb _ _ | exact g_b32 | exact g_and32 | assumption | exact ⟨by omega, by omega⟩) (fun c2 => ?_) (fun c2 => ?_)
    · skip
      refine g_iconst hc dX12_meetings_38 ?_
      refine g_iret hc hm dX12_meetings_39 ?_
      exact ⟨by rw [if_neg (fun z => by omega)], rfl, rfl, rfl, rfl⟩
    · skip
      refine g_iload_n hc dX12_meetings_12 rfl ?_
      refine g_if_lt (tgt := 38) hc dX12_meetings_13 (by decide) (by first | exact hI _ _ | exact hxI2 _ _ | exact hIa _ _ | exact hIb _ _ | exact g_b32 | exact g_and32 | assumption | exact ⟨by omega, by omega⟩) (fun c3 => ?_) (fun c3 => ?_)
      · skip
        refine g_iconst hc dX12_meetings_38 ?_
        refine g_iret hc hm dX12_meetings_39 ?_
        exact ⟨by rw [if_neg (fun z => by omega)], rfl, rfl, rfl, rfl⟩
      · skip
        refine g_iload_n hc dX12_meetings_16 rfl ?_
        refine g_aldn hc dX12_meetings_17 rfl ?_
        refine g_getI' hc lk_X12_102 ca_0 10 rfl dX12_meetings_18 ?_
        refine g_icmp_ge (tgt := 38) hc dX12_meetings_21 (by decide) (by first | exact hI _ _ | exact hxI2 _ _ | exact hIa _ _ | exact hIb _ _ | exact g_b32 | exact g_and32 | assumption | exact ⟨by omega, by omega⟩) (by first | exact hI _ _ | exact hxI2 _ _ | exact hIa _ _ | exact hIb _ _ | exact g_b32 | exact g_and32 | assumption | exact ⟨by omega, by omega⟩) (fun c4 => ?_) (fun c4 => ?_)
        · skip
          refine g_iconst hc dX12_meetings_38 ?_
          refine g_iret hc hm dX12_meetings_39 ?_
          exact ⟨by rw [if_neg (fun z => by omega)], rfl, rfl, rfl, rfl⟩
        · skip
          refine g_iload_n hc dX12_meetings_24 rfl ?_
          refine g_iload_n hc dX12_meetings_25 rfl ?_
          refine g_icmp_eq (tgt := 38) hc dX12_meetings_26 (by decide) (by first | exact hI _ _ | exact hxI2 _ _ | exact hIa _ _ | exact hIb _ _ | exact g_b32 | exact g_and32 | assumption | exact ⟨by omega, by omega⟩) (by first | exact hI _ _ | exact hxI2 _ _ | exact hIa _ _ | exact hIb _ _ | exact g_b32 | exact g_and32 | assumption | exact ⟨by omega, by omega⟩) (fun c5 => ?_) (fun c5 => ?_)
          · skip
            refine g_iconst hc dX12_meetings_38 ?_
            refine g_iret hc hm dX12_meetings_39 ?_
            exact ⟨by rw [if_neg (fun z => by omega)], rfl, rfl, rfl, rfl⟩
          · skip
            refine g_iload_n hc dX12_meetings_29 rfl ?_
            refine g_if_lt (tgt := 38) hc dX12_meetings_30 (by decide) (by first | exact hI _ _ | exact hxI2 _ _ | exact hIa _ _ | exact hIb _ _ | exact g_b32 | exact g_and32 | assumption | exact ⟨by omega, by omega⟩) (fun c6 => ?_) (fun c6 => ?_)
            · skip
              refine g_iconst hc dX12_meetings_38 ?_
              refine g_iret hc hm dX12_meetings_39 ?_
              exact ⟨by rw [if_neg (fun z => by omega)], rfl, rfl, rfl, rfl⟩
            · skip
              refine g_iload_n hc dX12_meetings_33 rfl ?_
              refine g_iconst hc dX12_meetings_34 ?_
              refine g_icmp_le (tgt := 40) hc dX12_meetings_35 (by decide) (by first | exact hI _ _ | exact hxI2 _ _ | exact hIa _ _ | exact hIb _ _ | exact g_b32 | exact g_and32 | assumption | exact ⟨by omega, by omega⟩) (by first | exact hI _ _ | exact hxI2 _ _ | exact hIa _ _ | exact hIb _ _ | exact g_b32 | exact g_and32 | assumption | exact ⟨by omega, by omega⟩) (fun c7 => ?_) (fun c7 => ?_)
              · skip
                have hLa := hLL j (by omega) (by omega)
                have hLb := hLL k (by omega) (by omega)
                refine g_iload_n hc dX12_meetings_40 rfl ?_
                refine g_if_ne (tgt := 62) hc dX12_meetings_41 (by decide) (by first | exact hI _ _ | exact hxI2 _ _ | exact hIa _ _ | exact hIb _ _ | exact g_b32 | exact g_and32 | assumption | exact ⟨by omega, by omega⟩) (fun c8 => ?_) (fun c8 => ?_)
                · skip
                  refine g_aldn hc dX12_meetings_62 rfl ?_
                  refine g_getRk hc lk_X12_18 ca_0 (rc_0_1 hR) dX12_meetings_63 ?_
                  refine g_iload_n hc dX12_meetings_66 rfl ?_
                  refine g_aaldk hc ca_3 (by decide) rfl rfl (by decide) (by omega) (by omega) (ra_3 hR (by omega) (by omega)) dX12_meetings_67 ?_
                  refine g_aldn hc dX12_meetings_68 rfl ?_
                  refine g_getRk hc lk_X12_18 ca_0 (rc_0_1 hR) dX12_meetings_69 ?_
                  refine g_iload_n hc dX12_meetings_72 rfl ?_
                  refine g_aaldk hc ca_3 (by decide) rfl rfl (by decide) (by omega) (by omega) (ra_3 hR (by omega) (by omega)) dX12_meetings_73 ?_
                  refine g_S2r hc (c_X2_crossesMost w hR hI (gl_of (i := j) (by omega) (by omega)) (gl_of (i := k) (by omega) (by omega)) hLa hLb) my_X2_crossesMost ms_X2_crossesMost lm_X12_323 rfl (by decide) (Nat.le_of_ble_eq_true rfl) hm dX12_meetings_74 ?_
                  refine g_iret hc hm dX12_meetings_77 ?_
                  exact ⟨by rw [if_pos (by omega), if_neg (by omega)], rfl, rfl, rfl, rfl⟩
                · skip
                  refine g_aldn hc dX12_meetings_44 rfl ?_
                  refine g_getRk hc lk_X12_18 ca_0 (rc_0_1 hR) dX12_meetings_45 ?_
                  refine g_iload_n hc dX12_meetings_48 rfl ?_
                  refine g_aaldk hc ca_3 (by decide) rfl rfl (by decide) (by omega) (by omega) (ra_3 hR (by omega) (by omega)) dX12_meetings_49 ?_
                  refine g_aldn hc dX12_meetings_50 rfl ?_
                  refine g_getRk hc lk_X12_18 ca_0 (rc_0_1 hR) dX12_meetings_51 ?_
                  refine g_iload_n hc dX12_meetings_54 rfl ?_
                  refine g_aaldk hc ca_3 (by decide) rfl rfl (by decide) (by omega) (by omega) (ra_3 hR (by omega) (by omega)) dX12_meetings_55 ?_
                  refine g_S2r hc (c_X2_pairs w hR hI (gl_of (i := j) (by omega) (by omega)) (gl_of (i := k) (by omega) (by omega)) hLa hLb) my_X2_pairs ms_X2_pairs lm_X12_319 rfl (by decide) (Nat.le_of_ble_eq_true rfl) hm dX12_meetings_56 ?_
                  refine g_goto (tgt := 77) hc dX12_meetings_59 (by decide) ?_
                  refine g_iret hc hm dX12_meetings_77 ?_
                  exact ⟨by rw [if_pos (by omega), if_pos (by omega)], rfl, rfl, rfl, rfl⟩
              · skip
                refine g_iconst hc dX12_meetings_38 ?_
                refine g_iret hc hm dX12_meetings_39 ?_
                exact ⟨by rw [if_neg (fun z => by omega)], rfl, rfl, rfl, rfl⟩
