set_option maxHeartbeats 4000000 in
set_option maxRecDepth 100000 in
/-- X1_shares -/
theorem c_X1_shares (w : g_W) {I : g_I} {J : g_J} {R : g_R} {lb tx : Nat} (hR : g_rf w R lb tx) (hlb : g_life lb) {I2 : g_I} (hI : ∀ k j, g32 (I k j)) (hsI2 : g_off I I2) (hxI2 : ∀ k j, g32 (I2 k j)) (hC : g_cin I lb) {s : Int} (h1 : 0 ≤ s ∧ s < I lb 0) : g_Met w g_n I2 J R yX1_shares cX1_shares 2 (some .boolean) 3 0 0 [(gvr w 686), (gvI s)] (g_post (some (gvI (g_b (g_shs I lb s)))) g_n I2 J R) := by
  refine g_intro (own := RX1) [some (gvr w 686), some (gvI s)] (by decide +kernel) rfl (by decide) (Nat.le_of_ble_eq_true rfl) rfl (fun i v hv => g_args 0 i v hv rfl) (fun x hc hm => ?_)
  have hL := hC.1
  obtain ⟨hn0, hn1, hLs, hLf⟩ := id hL
  obtain ⟨-, hC1, hC2, hC3, hC4, hC5, hC6, hC7⟩ := id hC
  have hlb5 := hlb
  unfold g_life at hlb5
  have hdI2 : ∀ k : Nat, ¬ g_sV k → I2 k = I2 k := fun _ _ => rfl
  refine g_aldn hc dX1_shares_0 rfl ?_
  refine g_getRk hc lk_X1_26 ca_686 (rc_686_0 hR) dX1_shares_1 ?_
  refine g_iload_n hc dX1_shares_4 rfl ?_
  refine g_V1r hc (c_X7_isThere w hR hxI2 hlb (g_lok_cg hsI2 hlb hL) (by first | omega | (rw [hsI2 _ (g_nl hlb (by omega) (by omega))]; omega))) my_X7_isThere mv_X7_isThere ca_548 rfl rfl lm_X1_34 rfl (by decide) (Nat.le_of_ble_eq_true rfl) hm dX1_shares_5 ?_
  rw [show g_thr I2 lb s = g_thr I lb s from g_thr_cg hsI2 hlb (by omega)]
  refine g_ifb_eq (tgt := 37) hc dX1_shares_8 (by decide)  (fun c1 => ?_) (fun c1 => ?_)
  · skip
    refine g_iconst hc dX1_shares_37 ?_
    refine g_zret hc hm (by first | exact g_b01 | omega) dX1_shares_38 ?_
    first | (exfalso; omega) | exact g_postE (g_b1 ⟨by assumption, Or.inl (by assumption)⟩) | exact g_postE (g_b1 ⟨by assumption, Or.inr (by assumption)⟩) | exact g_postE (g_b0 (fun z => absurd z.1 (by assumption))) | exact g_postE (g_b0 (fun z => by rcases z.2 with z | z; (exact absurd (by assumption) z); (exact absurd z (by assumption))))
  · skip
    refine g_aldn hc dX1_shares_11 rfl ?_
    refine g_getRk hc lk_X1_26 ca_686 (rc_686_0 hR) dX1_shares_12 ?_
    refine g_iload_n hc dX1_shares_15 rfl ?_
    refine g_V1r hc (c_X7_isDead w hR hxI2 hlb (g_lok_cg hsI2 hlb hL) (by first | omega | (rw [hsI2 _ (g_nl hlb (by omega) (by omega))]; omega))) my_X7_isDead mv_X7_isDead ca_548 rfl rfl lm_X1_40 rfl (by decide) (Nat.le_of_ble_eq_true rfl) hm dX1_shares_16 ?_
    rw [show I2 (lb + 2 + (s).toNat) 4 = I (lb + 2 + (s).toNat) 4 from by rw [hsI2 _ (g_nl hlb (by omega) (by omega))]]
    refine g_ifb_eq (tgt := 33) hc dX1_shares_19 (by decide)  (fun c2 => ?_) (fun c2 => ?_)
    · skip
      refine g_iconst hc dX1_shares_33 ?_
      refine g_goto (tgt := 38) hc dX1_shares_34 (by decide) ?_
      refine g_zret hc hm (by first | exact g_b01 | omega) dX1_shares_38 ?_
      first | (exfalso; omega) | exact g_postE (g_b1 ⟨by assumption, Or.inl (by assumption)⟩) | exact g_postE (g_b1 ⟨by assumption, Or.inr (by assumption)⟩) | exact g_postE (g_b0 (fun z => absurd z.1 (by assumption))) | exact g_postE (g_b0 (fun z => by rcases z.2 with z | z; (exact absurd (by assumption) z); (exact absurd z (by assumption))))
    · skip
      refine g_aldn hc dX1_shares_22 rfl ?_
      refine g_getRk hc lk_X1_26 ca_686 (rc_686_0 hR) dX1_shares_23 ?_
      refine g_iconst hc dX1_shares_26 ?_
      refine g_V1r hc (c_X7_hasLaw w hR hxI2) my_X7_hasLaw mv_X7_hasLaw ca_548 rfl rfl lm_X1_43 rfl (by decide) (Nat.le_of_ble_eq_true rfl) hm dX1_shares_27 ?_
      rw [show I2 550 3 = I 550 3 from by rw [hsI2 550 (by decide)]]
      refine g_ifb_eq (tgt := 37) hc dX1_shares_30 (by decide)  (fun c3 => ?_) (fun c3 => ?_)
      · skip
        refine g_iconst hc dX1_shares_37 ?_
        refine g_zret hc hm (by first | exact g_b01 | omega) dX1_shares_38 ?_
        first | (exfalso; omega) | exact g_postE (g_b1 ⟨by assumption, Or.inl (by assumption)⟩) | exact g_postE (g_b1 ⟨by assumption, Or.inr (by assumption)⟩) | exact g_postE (g_b0 (fun z => absurd z.1 (by assumption))) | exact g_postE (g_b0 (fun z => by rcases z.2 with z | z; (exact absurd (by assumption) z); (exact absurd z (by assumption))))
      · skip
        refine g_iconst hc dX1_shares_33 ?_
        refine g_goto (tgt := 38) hc dX1_shares_34 (by decide) ?_
        refine g_zret hc hm (by first | exact g_b01 | omega) dX1_shares_38 ?_
        first | (exfalso; omega) | exact g_postE (g_b1 ⟨by assumption, Or.inl (by assumption)⟩) | exact g_postE (g_b1 ⟨by assumption, Or.inr (by assumption)⟩) | exact g_postE (g_b0 (fun z => absurd z.1 (by assumption))) | exact g_postE (g_b0 (fun z => by rcases z.2 with z | z; (exact absurd (by assumption) z); (exact absurd z (by assumption))))
set_option maxHeartbeats 4000000 in
set_option maxRecDepth 100000 in
/-- X1_weigh -/
theorem c_X1_weigh (w : g_W) {I : g_I} {J : g_J} {R : g_R} {lb tx : Nat} (hR : g_rf w R lb tx) (hlb : g_life lb) {I2 : g_I} (hI : ∀ k j, g32 (I k j)) (hsI2 : g_off I I2) (hxI2 : ∀ k j, g32 (I2 k j)) (hC : g_cin I lb) : g_Met w g_n I2 J R yX1_weigh cX1_weigh 4 (some .long) 6 0 0 [(gvr w 686)] (fun rr nn II JJ RR => g_rel w (some (gvL (g_wsm I lb))) g_sW I2 J R rr nn II JJ RR ∧ g_vok I lb II 0 ∧ (∀ s : Int, 0 ≤ s → s < I lb 0 → II 687 s = g_wgt I lb s)) := by
  refine g_intro (own := RX1) [some (gvr w 686), none, none, none] (by decide +kernel) rfl (by decide) (Nat.le_of_ble_eq_true rfl) rfl (fun i v hv => g_args 3 i v hv rfl) (fun x hc hm => ?_)
  have hL := hC.1
  obtain ⟨hn0, hn1, hLs, hLf⟩ := id hL
  obtain ⟨-, hC1, hC2, hC3, hC4, hC5, hC6, hC7⟩ := id hC
  have hlb5 := hlb
  unfold g_life at hlb5
  have hdI2 : ∀ k : Nat, ¬ g_sW k → I2 k = I2 k := fun _ _ => rfl
  refine g_aldn hc dX1_weigh_0 rfl ?_
  refine g_getRk hc lk_X1_30 ca_686 (rc_686_1 hR) dX1_weigh_1 ?_
  refine g_V0 hc (c_X11_reckon w hR hlb hI hsI2 hxI2 hC) my_X11_reckon mv_X11_reckon ca_683 rfl rfl lm_X1_46 rfl (by decide) (Nat.le_of_ble_eq_true rfl) hm dX1_weigh_4 (fun r3 n3 I3 J3 R3 hp3 => ?_)
  obtain ⟨⟨rfl, rfl, hfI3, hxI3, rfl, rfl⟩, hVI3⟩ := hp3
  have hsI3 : g_off I I3 := fun k hk => (hfI3 k (fun q => hk (by omega))).trans (hsI2 k hk)
  have hdI3 : ∀ k : Nat, ¬ g_sW k → I3 k = I2 k := fun k hk => (hfI3 k (fun q => hk (by omega))).trans (hdI2 k hk)
  refine g_lconst hc dX1_weigh_7 0 (by decide +kernel) ?_
  refine g_lstore_1 hc dX1_weigh_8 rfl ?_
  refine g_iconst hc dX1_weigh_9 ?_
  refine g_istore_3 hc dX1_weigh_10 rfl ?_
  have lp_11 : ∀ (fu : Nat) (a i : Int) (Im : g_I), 0 ≤ i ∧ i ≤ I lb 0 → a = g_sum (g_wgt I lb) i.toNat → g_off I Im → (∀ k j, g32 (Im k j)) → (∀ k : Nat, ¬ g_sW k → Im k = I2 k) → g_vok I lb Im 0 → (∀ s : Int, 0 ≤ s → s < i → Im 687 s = g_wgt I lb s) → I lb 0 - i < (fu : Int) → G w x (fun rr nn II JJ RR => g_rel w (some (gvL (g_wsm I lb))) g_sW I2 J R rr nn II JJ RR ∧ g_vok I lb II 0 ∧ (∀ s : Int, 0 ≤ s → s < I lb 0 → II 687 s = g_wgt I lb s)) 0 0 g_n Im J R 11 [some (gvr w 686), some (gvL a), none, some (gvI i)] [] := by
    intro fu
    induction fu with
    | zero => intro a i Im h3 h4 hsIm hxIm hdIm hVIm hrow hfu; exfalso; omega
    | succ fu ih =>
      intro a i Im h3 h4 hsIm hxIm hdIm hVIm hrow hfu
      have ih_11 := ih
      refine g_iload_n hc dX1_weigh_11 rfl ?_
      refine g_aldn hc dX1_weigh_12 rfl ?_
      refine g_getRk hc lk_X1_26 ca_686 (rc_686_0 hR) dX1_weigh_13 ?_
      refine g_getRvk hc lk_X1_51 ca_548 (rc_548_3 hR) dX1_weigh_16 ?_
      refine g_getIe hc lk_X1_55 (la_0 hlb) 0 rfl (congrFun (hsIm _ (by omega)) _) dX1_weigh_19 ?_
      refine g_icmp_ge (tgt := 72) hc dX1_weigh_22 (by decide) (by first | exact hI _ _ | exact hxI2 _ _ | exact hIa _ _ | exact hIb _ _ | exact g_b32 | exact g_and32 | assumption | exact ⟨by omega, by omega⟩) (by first | exact hI _ _ | exact hxI2 _ _ | exact hIa _ _ | exact hIb _ _ | exact g_b32 | exact g_and32 | assumption | exact ⟨by omega, by omega⟩) (fun c1 => ?_) (fun c1 => ?_)
      · skip
        refine g_lload_n hc dX1_weigh_72 rfl ?_
        refine g_lret hc hm dX1_weigh_73 ?_
        have hE : a = g_wsm I lb := by rw [h4, g_wsm, show I lb 0 = i by omega]
        rw [hE]; exact ⟨⟨rfl, rfl, hdIm, hxIm, rfl, rfl⟩, hVIm, fun s h0 h1 => hrow s h0 (by omega)⟩
      · skip
        have hwb := g_wgt_in hL hVIm (s := i) (by omega)
        have hri := g_rgs_in hL hVIm (s := i) (by omega)
        have htd := Int.tdiv_eq_ediv_of_nonneg (b := 100) hri.1
        refine g_aldn hc dX1_weigh_25 rfl ?_
        refine g_getRk hc lk_X1_9 ca_686 (rc_686_2 hR) dX1_weigh_26 ?_
        refine g_iload_n hc dX1_weigh_29 rfl ?_
        refine g_aldn hc dX1_weigh_30 rfl ?_
        refine g_iload_n hc dX1_weigh_31 rfl ?_
        refine g_V1r hc (c_X1_shares w hR hlb hI hsIm hxIm hC (by omega)) my_X1_shares mv_X1_shares ca_686 rfl rfl lm_X1_61 rfl (by decide) (Nat.le_of_ble_eq_true rfl) hm dX1_weigh_32 ?_
        refine g_ifb_eq (tgt := 54) hc dX1_weigh_35 (by decide)  (fun c2 => ?_) (fun c2 => ?_)
        · skip
          refine g_iconst hc dX1_weigh_54 ?_
          have hwi : g_wgt I lb i = 0 := by unfold g_wgt; first | rw [if_pos (by assumption)] | rw [if_neg (by assumption)]
          obtain ⟨I4, hI4⟩ : ∃ I4, I4 = g_up Im 687 i 0 := ⟨_, rfl⟩
          have hsI4 : g_off I I4 := fun k hk => by
            rw [hI4]; funext j; rw [g_up_k (by omega)]; exact congrFun (hsIm k hk) j
          have hfI4 : ∀ k : Nat, k ≠ 687 → I4 k = Im k := fun k hk => by rw [hI4]; funext j; exact g_up_k hk
          have hdI4 : ∀ k : Nat, ¬ g_sW k → I4 k = I2 k := fun k hk => (hfI4 k (by omega)).trans (hdIm k hk)
          have hxI4 : ∀ k j, g32 (I4 k j) := by rw [hI4]; exact g_up32 hxIm (by exact ⟨by omega, by omega⟩)
          refine g_iaste (I2 := I4) hc ca_687 (by decide) (by omega) (by omega) hI4.symm dX1_weigh_55 ?_
          have hVI4 : g_vok I lb I4 0 := ⟨fun s h0 h1 => by rw [hfI4 684 (by decide)]; exact hVIm.1 s h0 h1, fun f h0 h1 => by rw [hfI4 685 (by decide)]; exact hVIm.2 f h0 h1⟩
          have hrow4 : (∀ s : Int, 0 ≤ s → s < i + 1 → I4 687 s = g_wgt I lb s) := fun s h0 h1 => by
            rw [hI4]
            by_cases e : s = i
            · subst e; rw [g_up_s, hwi]
            · rw [g_up_i e]; exact hrow s h0 (by omega)
          refine g_lload_n hc dX1_weigh_56 rfl ?_
          refine g_aldn hc dX1_weigh_57 rfl ?_
          refine g_getRk hc lk_X1_9 ca_686 (rc_686_2 hR) dX1_weigh_58 ?_
          refine g_iload_n hc dX1_weigh_61 rfl ?_
          refine g_iald hc ca_687 (by decide) (by omega) (by omega) dX1_weigh_62 ?_
          rw [show I4 687 i = g_wgt I lb i from hrow4 i h3.1 (by omega)]
          refine g_i2l hc dX1_weigh_63 (by exact ⟨by omega, by omega⟩) ?_
          refine g_ladd hc dX1_weigh_64 ?_
          refine g_lstore_1 hc dX1_weigh_65 rfl ?_
          refine g_iinc_3 hc dX1_weigh_66 rfl ?_
          refine g_goto (tgt := 11) hc dX1_weigh_69 (by decide) ?_
          refine ih_11 _ _ _ ?_ ?_ ?_ ?_ ?_ ?_ ?_ ?_
          · omega
          · rw [g_sum_i h3.1, h4]
          · exact hsI4
          · exact hxI4
          · exact hdI4
          · exact hVI4
          · exact hrow4
          · omega
        · skip
          refine g_iconst hc dX1_weigh_38 ?_
          refine g_aldn hc dX1_weigh_39 rfl ?_
          refine g_getRk hc lk_X1_30 ca_686 (rc_686_1 hR) dX1_weigh_40 ?_
          refine g_iload_n hc dX1_weigh_43 rfl ?_
          refine g_V1r hc (c_X11_regrets w hR hlb hI hsIm hxIm hC hVIm (by omega)) my_X11_regrets mv_X11_regrets ca_683 rfl rfl lm_X1_64 rfl (by decide) (Nat.le_of_ble_eq_true rfl) hm dX1_weigh_44 ?_
          refine g_bipush hc dX1_weigh_47 (by decide +kernel) ?_
          refine g_idiv hc dX1_weigh_49 (by first | exact hI _ _ | exact hxI2 _ _ | exact hIa _ _ | exact hIb _ _ | exact g_b32 | exact g_and32 | assumption | exact ⟨by omega, by omega⟩) (by first | exact hI _ _ | exact hxI2 _ _ | exact hIa _ _ | exact hIb _ _ | exact g_b32 | exact g_and32 | assumption | exact ⟨by omega, by omega⟩) (by omega) ?_
          refine g_iadd hc dX1_weigh_50 ?_
          refine g_goto (tgt := 55) hc dX1_weigh_51 (by decide) ?_
          have hwi : g_wgt I lb i = 1 + ((g_rgs I lb i).tdiv 100) := by unfold g_wgt; first | rw [if_pos (by assumption)] | rw [if_neg (by assumption)]
          obtain ⟨I5, hI5⟩ : ∃ I5, I5 = g_up Im 687 i (1 + ((g_rgs I lb i).tdiv 100)) := ⟨_, rfl⟩
          have hsI5 : g_off I I5 := fun k hk => by
            rw [hI5]; funext j; rw [g_up_k (by omega)]; exact congrFun (hsIm k hk) j
          have hfI5 : ∀ k : Nat, k ≠ 687 → I5 k = Im k := fun k hk => by rw [hI5]; funext j; exact g_up_k hk
          have hdI5 : ∀ k : Nat, ¬ g_sW k → I5 k = I2 k := fun k hk => (hfI5 k (by omega)).trans (hdIm k hk)
          have hxI5 : ∀ k j, g32 (I5 k j) := by rw [hI5]; exact g_up32 hxIm (by exact ⟨by omega, by omega⟩)
          refine g_iaste (I2 := I5) hc ca_687 (by decide) (by omega) (by omega) hI5.symm dX1_weigh_55 ?_
          have hVI5 : g_vok I lb I5 0 := ⟨fun s h0 h1 => by rw [hfI5 684 (by decide)]; exact hVIm.1 s h0 h1, fun f h0 h1 => by rw [hfI5 685 (by decide)]; exact hVIm.2 f h0 h1⟩
          have hrow4 : (∀ s : Int, 0 ≤ s → s < i + 1 → I5 687 s = g_wgt I lb s) := fun s h0 h1 => by
            rw [hI5]
            by_cases e : s = i
            · subst e; rw [g_up_s, hwi]
            · rw [g_up_i e]; exact hrow s h0 (by omega)
          refine g_lload_n hc dX1_weigh_56 rfl ?_
          refine g_aldn hc dX1_weigh_57 rfl ?_
          refine g_getRk hc lk_X1_9 ca_686 (rc_686_2 hR) dX1_weigh_58 ?_
          refine g_iload_n hc dX1_weigh_61 rfl ?_
          refine g_iald hc ca_687 (by decide) (by omega) (by omega) dX1_weigh_62 ?_
          rw [show I5 687 i = g_wgt I lb i from hrow4 i h3.1 (by omega)]
          refine g_i2l hc dX1_weigh_63 (by exact ⟨by omega, by omega⟩) ?_
          refine g_ladd hc dX1_weigh_64 ?_
          refine g_lstore_1 hc dX1_weigh_65 rfl ?_
          refine g_iinc_3 hc dX1_weigh_66 rfl ?_
          refine g_goto (tgt := 11) hc dX1_weigh_69 (by decide) ?_
          refine ih_11 _ _ _ ?_ ?_ ?_ ?_ ?_ ?_ ?_ ?_
          · omega
          · rw [g_sum_i h3.1, h4]
          · exact hsI5
          · exact hxI5
          · exact hdI5
          · exact hVI5
          · exact hrow4
          · omega
  refine lp_11 (I lb 0 + 1).toNat _ _ _ ?_ ?_ ?_ ?_ ?_ ?_ ?_ (?_)
  · omega
  · rfl
  · exact hsI3
  · exact hxI3
  · exact hdI3
  · exact hVI3
  · intro s h0 h1; omega
  · omega
set_option maxHeartbeats 4000000 in
set_option maxRecDepth 100000 in
/-- X1_shareOf -/
theorem c_X1_shareOf (w : g_W) {I : g_I} {J : g_J} {R : g_R} {lb tx : Nat} (hR : g_rf w R lb tx) (hlb : g_life lb) {I2 : g_I} (hI : ∀ k j, g32 (I k j)) (hsI2 : g_off I I2) (hxI2 : ∀ k j, g32 (I2 k j)) (hC : g_cin I lb) {s pot : Int} (h1 : 0 ≤ s ∧ s < I lb 0) (h2 : 0 ≤ pot ∧ pot ≤ 9999) : g_Met w g_n I2 J R yX1_shareOf cX1_shareOf 9 (some .int) 7 0 0 [(gvr w 686), (gvI s), (gvI pot)] (fun rr nn II JJ RR => g_rel w (some (gvI (g_sho I lb s pot))) g_sW I2 J R rr nn II JJ RR) := by
  refine g_intro (own := RX1) [some (gvr w 686), some (gvI s), some (gvI pot), none, none, none, none, none, none] (by decide +kernel) rfl (by decide) (Nat.le_of_ble_eq_true rfl) rfl (fun i v hv => g_args 6 i v hv rfl) (fun x hc hm => ?_)
  have hL := hC.1
  obtain ⟨hn0, hn1, hLs, hLf⟩ := id hL
  obtain ⟨-, hC1, hC2, hC3, hC4, hC5, hC6, hC7⟩ := id hC
  have hlb5 := hlb
  unfold g_life at hlb5
  have hdI2 : ∀ k : Nat, ¬ g_sW k → I2 k = I2 k := fun _ _ => rfl
  refine g_aldn hc dX1_shareOf_0 rfl ?_
  refine g_V0 hc (c_X1_weigh w hR hlb hI hsI2 hxI2 hC) my_X1_weigh mv_X1_weigh ca_686 rfl rfl lm_X1_68 rfl (by decide) (Nat.le_of_ble_eq_true rfl) hm dX1_shareOf_1 (fun r3 n3 I3 J3 R3 hp3 => ?_)
  obtain ⟨⟨rfl, rfl, hfI3, hxI3, rfl, rfl⟩, hVI3, hWI3⟩ := hp3
  have hsI3 : g_off I I3 := fun k hk => (hfI3 k (fun q => hk (by omega))).trans (hsI2 k hk)
  have hdI3 : ∀ k : Nat, ¬ g_sW k → I3 k = I2 k := fun k hk => (hfI3 k (fun q => hk (by omega))).trans (hdI2 k hk)
  have hwsb := g_sum_in (f := g_wgt I lb) (m := 12003601) (I lb 0).toNat (fun i h0 h3 => g_wgt_in hL hVI3 (by omega))
  change 0 ≤ g_wsm I lb ∧ g_wsm I lb ≤ _ at hwsb
  have hws := g_wgt_in hL hVI3 h1
  refine g_lstore_3 hc dX1_shareOf_4 rfl ?_
  refine g_lload_n hc dX1_shareOf_5 rfl ?_
  refine g_lconst hc dX1_shareOf_6 0 (by decide +kernel) ?_
  refine g_lcmp hc dX1_shareOf_7 (by exact ⟨by omega, by omega⟩) (by exact ⟨by omega, by omega⟩) ?_
  refine g_if_ne (tgt := 13) hc dX1_shareOf_8 (by decide) (by split <;> first | exact ⟨by decide, by decide⟩ | (split <;> exact ⟨by decide, by decide⟩)) (fun c1 => ?_) (fun c1 => ?_)
  · skip
    have hnz : ¬ g_wsm I lb = 0 := by split at c1 <;> first | omega | (split at c1 <;> omega)
    refine g_iload_n hc dX1_shareOf_13 rfl ?_
    refine g_i2l hc dX1_shareOf_14 (by exact ⟨by omega, by omega⟩) ?_
    refine g_lstore_5 hc dX1_shareOf_15 rfl ?_
    refine g_iconst hc dX1_shareOf_17 ?_
    refine g_istore_7 hc dX1_shareOf_18 rfl ?_
    refine g_iconst hc dX1_shareOf_20 ?_
    refine g_istore_8 hc dX1_shareOf_21 rfl ?_
    have lp_23 : ∀ (fu : Nat) (l c i : Int), 0 ≤ i ∧ i ≤ I lb 0 → l = pot - g_sum (fun t => (pot * g_wgt I lb t).tdiv (g_wsm I lb)) i.toNat → c = g_sum (fun t => if t < s ∧ 0 < g_wgt I lb t then 1 else 0) i.toNat → (-(120024006400 * (i + 1)) ≤ l ∧ l ≤ 120024006400 * (i + 1)) → 0 ≤ c ∧ c ≤ i → I lb 0 - i < (fu : Int) → G w x (fun rr nn II JJ RR => g_rel w (some (gvI (g_sho I lb s pot))) g_sW I2 J R rr nn II JJ RR) 0 0 g_n I3 J R 23 [some (gvr w 686), some (gvI s), some (gvI pot), some (gvL (g_wsm I lb)), none, some (gvL l), none, some (gvI c), some (gvI i)] [] := by
      intro fu
      induction fu with
      | zero => intro l c i h3 h4 h5 h6 h7 hfu; exfalso; omega
      | succ fu ih =>
        intro l c i h3 h4 h5 h6 h7 hfu
        have ih_23 := ih
        refine g_iload hc dX1_shareOf_23 rfl ?_
        refine g_aldn hc dX1_shareOf_25 rfl ?_
        refine g_getRk hc lk_X1_26 ca_686 (rc_686_0 hR) dX1_shareOf_26 ?_
        refine g_getRvk hc lk_X1_51 ca_548 (rc_548_3 hR) dX1_shareOf_29 ?_
        refine g_getIe hc lk_X1_55 (la_0 hlb) 0 rfl (congrFun (hsI3 _ (by omega)) _) dX1_shareOf_32 ?_
        refine g_icmp_ge (tgt := 88) hc dX1_shareOf_35 (by decide) (by first | exact hI _ _ | exact hxI2 _ _ | exact hIa _ _ | exact hIb _ _ | exact g_b32 | exact g_and32 | assumption | exact ⟨by omega, by omega⟩) (by first | exact hI _ _ | exact hxI2 _ _ | exact hIa _ _ | exact hIb _ _ | exact g_b32 | exact g_and32 | assumption | exact ⟨by omega, by omega⟩) (fun c2 => ?_) (fun c2 => ?_)
        · skip
          refine g_aldn hc dX1_shareOf_88 rfl ?_
          refine g_getRk hc lk_X1_9 ca_686 (rc_686_2 hR) dX1_shareOf_89 ?_
          refine g_iload_n hc dX1_shareOf_92 rfl ?_
          refine g_iald hc ca_687 (by decide) (by omega) (by omega) dX1_shareOf_93 ?_
          rw [(show I3 687 s = g_wgt I lb s from hWI3 s (by omega) (by omega))]
          refine g_if_le (tgt := 110) hc dX1_shareOf_94 (by decide) (by exact ⟨by omega, by omega⟩) (fun c3 => ?_) (fun c3 => ?_)
          · skip
            refine g_iconst hc dX1_shareOf_110 ?_
            refine g_istore_8 hc dX1_shareOf_111 rfl ?_
            refine g_iload_n hc dX1_shareOf_113 rfl ?_
            refine g_i2l hc dX1_shareOf_114 (by exact ⟨by omega, by omega⟩) ?_
            refine g_aldn hc dX1_shareOf_115 rfl ?_
            refine g_getRk hc lk_X1_9 ca_686 (rc_686_2 hR) dX1_shareOf_116 ?_
            refine g_iload_n hc dX1_shareOf_119 rfl ?_
            refine g_iald hc ca_687 (by decide) (by omega) (by omega) dX1_shareOf_120 ?_
            rw [(show I3 687 s = g_wgt I lb s from hWI3 s (by omega) (by omega))]
            have hms := g_mulb (a := pot) (b := g_wgt I lb s) (m := 9999) (n := 12003601) (by omega) (by omega)
            refine g_i2l hc dX1_shareOf_121 (by exact ⟨by omega, by omega⟩) ?_
            refine g_lmul hc dX1_shareOf_122 ?_
            refine g_lload_n hc dX1_shareOf_123 rfl ?_
            refine g_ldiv hc dX1_shareOf_124 (by exact ⟨by omega, by omega⟩) (by exact ⟨by omega, by omega⟩) (by omega) ?_
            refine g_l2i hc dX1_shareOf_125 ?_
            refine g_iload hc dX1_shareOf_126 rfl ?_
            refine g_iadd hc dX1_shareOf_128 ?_
            refine g_iret hc hm dX1_shareOf_129 ?_
            have e1 : I lb 0 = i := by omega
            first | exact g_relE (by rw [g_sho, if_neg hnz, if_neg (fun z => by rw [e1, ← h5] at z; rw [← h4] at z; omega), Int.add_zero]) hdI3 hxI3 | exact g_relE (by rw [g_sho, if_neg hnz, if_pos ⟨by omega, by rw [e1, ← h5, ← h4]; omega⟩]) hdI3 hxI3
          · skip
            refine g_iload hc dX1_shareOf_97 rfl ?_
            refine g_i2l hc dX1_shareOf_99 (by exact ⟨by omega, by omega⟩) ?_
            refine g_lload hc dX1_shareOf_100 rfl ?_
            refine g_lcmp hc dX1_shareOf_102 (by exact ⟨by omega, by omega⟩) (by exact ⟨by omega, by omega⟩) ?_
            refine g_if_ge (tgt := 110) hc dX1_shareOf_103 (by decide) (by split <;> first | exact ⟨by decide, by decide⟩ | (split <;> exact ⟨by decide, by decide⟩)) (fun c4 => ?_) (fun c4 => ?_)
            · skip
              have hcl : ¬ c < l := by split at c4 <;> first | omega | (split at c4 <;> omega)
              refine g_iconst hc dX1_shareOf_110 ?_
              refine g_istore_8 hc dX1_shareOf_111 rfl ?_
              refine g_iload_n hc dX1_shareOf_113 rfl ?_
              refine g_i2l hc dX1_shareOf_114 (by exact ⟨by omega, by omega⟩) ?_
              refine g_aldn hc dX1_shareOf_115 rfl ?_
              refine g_getRk hc lk_X1_9 ca_686 (rc_686_2 hR) dX1_shareOf_116 ?_
              refine g_iload_n hc dX1_shareOf_119 rfl ?_
              refine g_iald hc ca_687 (by decide) (by omega) (by omega) dX1_shareOf_120 ?_
              rw [(show I3 687 s = g_wgt I lb s from hWI3 s (by omega) (by omega))]
              have hms := g_mulb (a := pot) (b := g_wgt I lb s) (m := 9999) (n := 12003601) (by omega) (by omega)
              refine g_i2l hc dX1_shareOf_121 (by exact ⟨by omega, by omega⟩) ?_
              refine g_lmul hc dX1_shareOf_122 ?_
              refine g_lload_n hc dX1_shareOf_123 rfl ?_
              refine g_ldiv hc dX1_shareOf_124 (by exact ⟨by omega, by omega⟩) (by exact ⟨by omega, by omega⟩) (by omega) ?_
              refine g_l2i hc dX1_shareOf_125 ?_
              refine g_iload hc dX1_shareOf_126 rfl ?_
              refine g_iadd hc dX1_shareOf_128 ?_
              refine g_iret hc hm dX1_shareOf_129 ?_
              have e1 : I lb 0 = i := by omega
              first | exact g_relE (by rw [g_sho, if_neg hnz, if_neg (fun z => by rw [e1, ← h5] at z; rw [← h4] at z; omega), Int.add_zero]) hdI3 hxI3 | exact g_relE (by rw [g_sho, if_neg hnz, if_pos ⟨by omega, by rw [e1, ← h5, ← h4]; omega⟩]) hdI3 hxI3
            · skip
              have hcl : c < l := by split at c4 <;> first | omega | (split at c4 <;> omega)
              refine g_iconst hc dX1_shareOf_106 ?_
              refine g_goto (tgt := 111) hc dX1_shareOf_107 (by decide) ?_
              refine g_istore_8 hc dX1_shareOf_111 rfl ?_
              refine g_iload_n hc dX1_shareOf_113 rfl ?_
              refine g_i2l hc dX1_shareOf_114 (by exact ⟨by omega, by omega⟩) ?_
              refine g_aldn hc dX1_shareOf_115 rfl ?_
              refine g_getRk hc lk_X1_9 ca_686 (rc_686_2 hR) dX1_shareOf_116 ?_
              refine g_iload_n hc dX1_shareOf_119 rfl ?_
              refine g_iald hc ca_687 (by decide) (by omega) (by omega) dX1_shareOf_120 ?_
              rw [(show I3 687 s = g_wgt I lb s from hWI3 s (by omega) (by omega))]
              have hms := g_mulb (a := pot) (b := g_wgt I lb s) (m := 9999) (n := 12003601) (by omega) (by omega)
              refine g_i2l hc dX1_shareOf_121 (by exact ⟨by omega, by omega⟩) ?_
              refine g_lmul hc dX1_shareOf_122 ?_
              refine g_lload_n hc dX1_shareOf_123 rfl ?_
              refine g_ldiv hc dX1_shareOf_124 (by exact ⟨by omega, by omega⟩) (by exact ⟨by omega, by omega⟩) (by omega) ?_
              refine g_l2i hc dX1_shareOf_125 ?_
              refine g_iload hc dX1_shareOf_126 rfl ?_
              refine g_iadd hc dX1_shareOf_128 ?_
              refine g_iret hc hm dX1_shareOf_129 ?_
              have e1 : I lb 0 = i := by omega
              first | exact g_relE (by rw [g_sho, if_neg hnz, if_neg (fun z => by rw [e1, ← h5] at z; rw [← h4] at z; omega), Int.add_zero]) hdI3 hxI3 | exact g_relE (by rw [g_sho, if_neg hnz, if_pos ⟨by omega, by rw [e1, ← h5, ← h4]; omega⟩]) hdI3 hxI3
        · skip
          have hwi := g_wgt_in hL hVI3 (s := i) (by omega)
          have hmi := g_mulb (a := pot) (b := g_wgt I lb i) (m := 9999) (n := 12003601) (by omega) (by omega)
          have htd : ((pot * g_wgt I lb i).tdiv (g_wsm I lb)).natAbs ≤ 120024006399 := g_tdiv_in (by omega)
          refine g_lload hc dX1_shareOf_38 rfl ?_
          refine g_iload_n hc dX1_shareOf_40 rfl ?_
          refine g_i2l hc dX1_shareOf_41 (by exact ⟨by omega, by omega⟩) ?_
          refine g_aldn hc dX1_shareOf_42 rfl ?_
          refine g_getRk hc lk_X1_9 ca_686 (rc_686_2 hR) dX1_shareOf_43 ?_
          refine g_iload hc dX1_shareOf_46 rfl ?_
          refine g_iald hc ca_687 (by decide) (by omega) (by omega) dX1_shareOf_48 ?_
          rw [(show I3 687 i = g_wgt I lb i from hWI3 i (by omega) (by omega))]
          refine g_i2l hc dX1_shareOf_49 (by exact ⟨by omega, by omega⟩) ?_
          refine g_lmul hc dX1_shareOf_50 ?_
          refine g_lload_n hc dX1_shareOf_51 rfl ?_
          refine g_ldiv hc dX1_shareOf_52 (by exact ⟨by omega, by omega⟩) (by exact ⟨by omega, by omega⟩) (by omega) ?_
          refine g_lsub hc dX1_shareOf_53 ?_
          refine g_lstore_5 hc dX1_shareOf_54 rfl ?_
          refine g_iload hc dX1_shareOf_56 rfl ?_
          refine g_iload hc dX1_shareOf_58 rfl ?_
          refine g_iload_n hc dX1_shareOf_60 rfl ?_
          refine g_icmp_ge (tgt := 78) hc dX1_shareOf_61 (by decide) (by first | exact hI _ _ | exact hxI2 _ _ | exact hIa _ _ | exact hIb _ _ | exact g_b32 | exact g_and32 | assumption | exact ⟨by omega, by omega⟩) (by first | exact hI _ _ | exact hxI2 _ _ | exact hIa _ _ | exact hIb _ _ | exact g_b32 | exact g_and32 | assumption | exact ⟨by omega, by omega⟩) (fun c5 => ?_) (fun c5 => ?_)
          · skip
            refine g_iconst hc dX1_shareOf_78 ?_
            refine g_iadd hc dX1_shareOf_79 ?_
            refine g_istore_7 hc dX1_shareOf_80 rfl ?_
            refine g_iinc_8 hc dX1_shareOf_82 rfl ?_
            refine g_goto (tgt := 23) hc dX1_shareOf_85 (by decide) ?_
            refine ih_23 _ _ _ ?_ ?_ ?_ ?_ ?_ ?_
            · omega
            · rw [g_sum_i h3.1, h4]; omega
            · rw [g_sum_i h3.1, h5]; first | rw [if_pos ⟨by omega, by omega⟩] | (rw [if_neg (fun z => by omega)] <;> try omega)
            · omega
            · omega
            · omega
          · skip
            refine g_aldn hc dX1_shareOf_64 rfl ?_
            refine g_getRk hc lk_X1_9 ca_686 (rc_686_2 hR) dX1_shareOf_65 ?_
            refine g_iload hc dX1_shareOf_68 rfl ?_
            refine g_iald hc ca_687 (by decide) (by omega) (by omega) dX1_shareOf_70 ?_
            rw [(show I3 687 i = g_wgt I lb i from hWI3 i (by omega) (by omega))]
            refine g_if_le (tgt := 78) hc dX1_shareOf_71 (by decide) (by exact ⟨by omega, by omega⟩) (fun c6 => ?_) (fun c6 => ?_)
            · skip
              refine g_iconst hc dX1_shareOf_78 ?_
              refine g_iadd hc dX1_shareOf_79 ?_
              refine g_istore_7 hc dX1_shareOf_80 rfl ?_
              refine g_iinc_8 hc dX1_shareOf_82 rfl ?_
              refine g_goto (tgt := 23) hc dX1_shareOf_85 (by decide) ?_
              refine ih_23 _ _ _ ?_ ?_ ?_ ?_ ?_ ?_
              · omega
              · rw [g_sum_i h3.1, h4]; omega
              · rw [g_sum_i h3.1, h5]; first | rw [if_pos ⟨by omega, by omega⟩] | (rw [if_neg (fun z => by omega)] <;> try omega)
              · omega
              · omega
              · omega
            · skip
              refine g_iconst hc dX1_shareOf_74 ?_
              refine g_goto (tgt := 79) hc dX1_shareOf_75 (by decide) ?_
              refine g_iadd hc dX1_shareOf_79 ?_
              refine g_istore_7 hc dX1_shareOf_80 rfl ?_
              refine g_iinc_8 hc dX1_shareOf_82 rfl ?_
              refine g_goto (tgt := 23) hc dX1_shareOf_85 (by decide) ?_
              refine ih_23 _ _ _ ?_ ?_ ?_ ?_ ?_ ?_
              · omega
              · rw [g_sum_i h3.1, h4]; omega
              · rw [g_sum_i h3.1, h5]; first | rw [if_pos ⟨by omega, by omega⟩] | (rw [if_neg (fun z => by omega)] <;> try omega)
              · omega
              · omega
              · omega
    refine lp_23 (I lb 0 + 1).toNat _ _ _ ?_ ?_ ?_ ?_ ?_ (?_)
    · omega
    · simp [g_sum]
    · rfl
    · omega
    · omega
    · omega
  · skip
    have hz : g_wsm I lb = 0 := by split at c1 <;> first | omega | (split at c1 <;> omega)
    refine g_iconst hc dX1_shareOf_11 ?_
    refine g_iret hc hm dX1_shareOf_12 ?_
    exact g_relE (by rw [g_sho, if_pos hz]) hdI3 hxI3
