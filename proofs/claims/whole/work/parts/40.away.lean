set_option maxHeartbeats 4000000 in
set_option maxRecDepth 100000 in
/-- X1_demandOf -/
theorem c_X1_demandOf (w : g_W) {I : g_I} {J : g_J} {R : g_R} {lb tx : Nat} (hR : g_rf w R lb tx) (hlb : g_life lb) {I2 : g_I} (hI : ∀ k j, g32 (I k j)) (hsI2 : g_off I I2) (hxI2 : ∀ k j, g32 (I2 k j)) (hC : g_cin I lb) {s : Int} (h1 : 0 ≤ s ∧ s < I lb 0) : g_Met w g_n I2 J R yX1_demandOf cX1_demandOf 3 (some .int) 4 0 0 [(gvr w 686), (gvI s)] (g_post (some (gvI (g_dem I lb s))) g_n I2 J R) := by
  refine g_intro (own := RX1) [some (gvr w 686), some (gvI s), none] (by decide +kernel) rfl (by decide) (Nat.le_of_ble_eq_true rfl) rfl (fun i v hv => g_args 1 i v hv rfl) (fun x hc hm => ?_)
  have hL := hC.1
  obtain ⟨hn0, hn1, hLs, hLf⟩ := id hL
  obtain ⟨-, hC1, hC2, hC3, hC4, hC5, hC6, hC7⟩ := id hC
  have hlb5 := hlb
  unfold g_life at hlb5
  have hdI2 : ∀ k : Nat, ¬ g_sV k → I2 k = I2 k := fun _ _ => rfl
  obtain ⟨-, -, hr0, -, -, -, -, hr5, -⟩ := hLs s h1.1 h1.2
  have hmb := g_mulb (a := I (lb + 2 + s.toNat) 0) (b := 10 - I (lb + 2 + s.toNat) 5) (m := 693) (n := 10) (by omega) (by omega)
  refine g_aldn hc dX1_demandOf_0 rfl ?_
  refine g_getRk hc lk_X1_26 ca_686 (rc_686_0 hR) dX1_demandOf_1 ?_
  refine g_getRvk hc lk_X1_51 ca_548 (rc_548_3 hR) dX1_demandOf_4 ?_
  refine g_getRk hc lk_X1_72 (la_0 hlb) (rl_2 hR hlb) dX1_demandOf_7 ?_
  refine g_iload_n hc dX1_demandOf_10 rfl ?_
  refine g_aaldk hc (la_1 hlb) (by decide) rfl rfl (by decide) (by omega) (by omega) (rl_has hR hlb (by omega) (by omega)) dX1_demandOf_11 ?_
  refine g_astore_2 hc dX1_demandOf_12 rfl ?_
  refine g_aldn hc dX1_demandOf_13 rfl ?_
  refine g_iload_n hc dX1_demandOf_14 rfl ?_
  refine g_V1r hc (c_X1_shares w hR hlb hI hsI2 hxI2 hC (by omega)) my_X1_shares mv_X1_shares ca_686 rfl rfl lm_X1_61 rfl (by decide) (Nat.le_of_ble_eq_true rfl) hm dX1_demandOf_15 ?_
  refine g_ifb_eq (tgt := 37) hc dX1_demandOf_18 (by decide)  (fun c1 => ?_) (fun c1 => ?_)
  · skip
    refine g_iconst hc dX1_demandOf_37 ?_
    refine g_iret hc hm dX1_demandOf_38 ?_
    first | (exfalso; omega) | exact g_postE (by unfold g_dem; rw [if_pos (by assumption)]) | exact g_postE (by unfold g_dem; rw [if_neg (by assumption)])
  · skip
    refine g_aldn hc dX1_demandOf_21 rfl ?_
    refine g_iconst hc dX1_demandOf_22 ?_
    refine g_ialde hc (la_has hlb (by omega) (by omega)) (by decide) (by omega) (by omega) (congrFun (hsI2 _ (by omega)) _) dX1_demandOf_23 ?_
    refine g_bipush hc dX1_demandOf_24 (by decide +kernel) ?_
    refine g_aldn hc dX1_demandOf_26 rfl ?_
    refine g_iconst hc dX1_demandOf_27 ?_
    refine g_ialde hc (la_has hlb (by omega) (by omega)) (by decide) (by omega) (by omega) (congrFun (hsI2 _ (by omega)) _) dX1_demandOf_28 ?_
    refine g_isub hc dX1_demandOf_29 ?_
    refine g_imul hc dX1_demandOf_30 ?_
    refine g_bipush hc dX1_demandOf_31 (by decide +kernel) ?_
    refine g_idiv hc dX1_demandOf_33 (by exact ⟨by omega, by omega⟩) (by exact ⟨by omega, by omega⟩) (by omega) ?_
    refine g_goto (tgt := 38) hc dX1_demandOf_34 (by decide) ?_
    refine g_iret hc hm dX1_demandOf_38 ?_
    first | (exfalso; omega) | exact g_postE (by unfold g_dem; rw [if_pos (by assumption)]) | exact g_postE (by unfold g_dem; rw [if_neg (by assumption)])
set_option maxHeartbeats 4000000 in
set_option maxRecDepth 100000 in
/-- X1_demands -/
theorem c_X1_demands (w : g_W) {I : g_I} {J : g_J} {R : g_R} {lb tx : Nat} (hR : g_rf w R lb tx) (hlb : g_life lb) {I2 : g_I} (hI : ∀ k j, g32 (I k j)) (hsI2 : g_off I I2) (hxI2 : ∀ k j, g32 (I2 k j)) (hC : g_cin I lb)  : g_Met w g_n I2 J R yX1_demands cX1_demands 3 (some .int) 5 0 0 [(gvr w 686)] (fun rr nn II JJ RR => g_rel w (some (gvI (g_dms I lb))) g_sD I2 J R rr nn II JJ RR ∧ (∀ s : Int, 0 ≤ s → s < I lb 0 → II 688 s = g_dem I lb s)) := by
  refine g_intro (own := RX1) [some (gvr w 686), none, none] (by decide +kernel) rfl (by decide) (Nat.le_of_ble_eq_true rfl) rfl (fun i v hv => g_args 2 i v hv rfl) (fun x hc hm => ?_)
  have hL := hC.1
  obtain ⟨hn0, hn1, hLs, hLf⟩ := id hL
  obtain ⟨-, hC1, hC2, hC3, hC4, hC5, hC6, hC7⟩ := id hC
  have hlb5 := hlb
  unfold g_life at hlb5
  have hdI2 : ∀ k : Nat, ¬ g_sD k → I2 k = I2 k := fun _ _ => rfl
  refine g_iconst hc dX1_demands_0 ?_
  refine g_istore_1 hc dX1_demands_1 rfl ?_
  refine g_iconst hc dX1_demands_2 ?_
  refine g_istore_2 hc dX1_demands_3 rfl ?_
  have lp_4 : ∀ (fu : Nat) (a i : Int) (Im : g_I), 0 ≤ i ∧ i ≤ I lb 0 → a = g_sum (g_dem I lb) i.toNat → g_off I Im → (∀ k j, g32 (Im k j)) → (∀ k : Nat, ¬ g_sD k → Im k = I2 k) → (∀ s : Int, 0 ≤ s → s < i → Im 688 s = g_dem I lb s) → I lb 0 - i < (fu : Int) → G w x (fun rr nn II JJ RR => g_rel w (some (gvI (g_dms I lb))) g_sD I2 J R rr nn II JJ RR ∧ (∀ s : Int, 0 ≤ s → s < I lb 0 → II 688 s = g_dem I lb s)) 0 0 g_n Im J R 4 [some (gvr w 686), some (gvI a), some (gvI i)] [] := by
    intro fu
    induction fu with
    | zero => intro a i Im h3 h4 hsIm hxIm hdIm hrow hfu; exfalso; omega
    | succ fu ih =>
      intro a i Im h3 h4 hsIm hxIm hdIm hrow hfu
      have ih_4 := ih
      refine g_iload_n hc dX1_demands_4 rfl ?_
      refine g_aldn hc dX1_demands_5 rfl ?_
      refine g_getRk hc lk_X1_26 ca_686 (rc_686_0 hR) dX1_demands_6 ?_
      refine g_getRvk hc lk_X1_51 ca_548 (rc_548_3 hR) dX1_demands_9 ?_
      refine g_getIe hc lk_X1_55 (la_0 hlb) 0 rfl (congrFun (hsIm _ (by omega)) _) dX1_demands_12 ?_
      refine g_icmp_ge (tgt := 44) hc dX1_demands_15 (by decide) (by first | exact hI _ _ | exact hxI2 _ _ | exact hIa _ _ | exact hIb _ _ | exact g_b32 | exact g_and32 | assumption | exact ⟨by omega, by omega⟩) (by first | exact hI _ _ | exact hxI2 _ _ | exact hIa _ _ | exact hIb _ _ | exact g_b32 | exact g_and32 | assumption | exact ⟨by omega, by omega⟩) (fun c1 => ?_) (fun c1 => ?_)
      · skip
        refine g_iload_n hc dX1_demands_44 rfl ?_
        refine g_iret hc hm dX1_demands_45 ?_
        exact ⟨g_relE (by rw [h4, g_dms, show I lb 0 = i by omega]) hdIm hxIm, fun s h0 h1 => hrow s h0 (by omega)⟩
      · skip
        have hdi := g_dem_in hL (s := i) (by omega)
        refine g_aldn hc dX1_demands_18 rfl ?_
        refine g_getRk hc lk_X1_15 ca_686 (rc_686_3 hR) dX1_demands_19 ?_
        refine g_iload_n hc dX1_demands_22 rfl ?_
        refine g_aldn hc dX1_demands_23 rfl ?_
        refine g_iload_n hc dX1_demands_24 rfl ?_
        refine g_V1r hc (c_X1_demandOf w hR hlb hI hsIm hxIm hC (by omega)) my_X1_demandOf mv_X1_demandOf ca_686 rfl rfl lm_X1_75 rfl (by decide) (Nat.le_of_ble_eq_true rfl) hm dX1_demands_25 ?_
        obtain ⟨I3, hI3⟩ : ∃ I3, I3 = g_up Im 688 i (g_dem I lb i) := ⟨_, rfl⟩
        have hsI3 : g_off I I3 := fun k hk => by
          rw [hI3]; funext j; rw [g_up_k (by omega)]; exact congrFun (hsIm k hk) j
        have hfI3 : ∀ k : Nat, k ≠ 688 → I3 k = Im k := fun k hk => by rw [hI3]; funext j; exact g_up_k hk
        have hdI3 : ∀ k : Nat, ¬ g_sD k → I3 k = I2 k := fun k hk => (hfI3 k (by omega)).trans (hdIm k hk)
        have hxI3 : ∀ k j, g32 (I3 k j) := by rw [hI3]; exact g_up32 hxIm (by exact ⟨by omega, by omega⟩)
        refine g_iaste (I2 := I3) hc ca_688 (by decide) (by omega) (by omega) hI3.symm dX1_demands_28 ?_
        have hrow4 : (∀ s : Int, 0 ≤ s → s < i + 1 → I3 688 s = g_dem I lb s) := fun s h0 h1 => by
          rw [hI3]
          by_cases e : s = i
          · subst e; rw [g_up_s]
          · rw [g_up_i e]; exact hrow s h0 (by omega)
        have hrb : I3 688 i = g_dem I lb i := hrow4 i h3.1 (by omega)
        refine g_iload_n hc dX1_demands_29 rfl ?_
        refine g_aldn hc dX1_demands_30 rfl ?_
        refine g_getRk hc lk_X1_15 ca_686 (rc_686_3 hR) dX1_demands_31 ?_
        refine g_iload_n hc dX1_demands_34 rfl ?_
        refine g_iald hc ca_688 (by decide) (by omega) (by omega) dX1_demands_35 ?_
        refine g_iadd hc dX1_demands_36 ?_
        refine g_istore_1 hc dX1_demands_37 rfl ?_
        refine g_iinc_2 hc dX1_demands_38 rfl ?_
        refine g_goto (tgt := 4) hc dX1_demands_41 (by decide) ?_
        refine ih_4 _ _ _ ?_ ?_ ?_ ?_ ?_ ?_ ?_
        · omega
        · rw [g_sum_i h3.1, h4, hrb]
        · exact hsI3
        · exact hxI3
        · exact hdI3
        · exact hrow4
        · omega
  refine lp_4 (I lb 0 + 1).toNat _ _ _ ?_ ?_ ?_ ?_ ?_ ?_ (?_)
  · omega
  · rfl
  · exact hsI2
  · exact hxI2
  · exact hdI2
  · intro s h0 h1; omega
  · omega
set_option maxHeartbeats 4000000 in
set_option maxRecDepth 100000 in
/-- X1_askedBy -/
theorem c_X1_askedBy (w : g_W) {I : g_I} {J : g_J} {R : g_R} {lb tx : Nat} (hR : g_rf w R lb tx) (hlb : g_life lb) {I2 : g_I} (hI : ∀ k j, g32 (I k j)) (hsI2 : g_off I I2) (hxI2 : ∀ k j, g32 (I2 k j)) (hC : g_cin I lb) {m : Int} (hAI2 : (∀ s : Int, 0 ≤ s → s < I lb 0 → I2 688 s = g_dem I lb s)) : g_Met w g_n I2 J R yX1_askedBy cX1_askedBy 4 (some .int) 0 0 0 [(gvr w 686), (gvI m)] (g_post (some (gvI (g_asb I lb m))) g_n I2 J R) := by
  refine g_intro (own := RX1) [some (gvr w 686), some (gvI m), none, none] (by decide +kernel) rfl (by decide) (Nat.le_of_ble_eq_true rfl) rfl (fun i v hv => g_args 2 i v hv rfl) (fun x hc hm => ?_)
  have hL := hC.1
  obtain ⟨hn0, hn1, hLs, hLf⟩ := id hL
  obtain ⟨-, hC1, hC2, hC3, hC4, hC5, hC6, hC7⟩ := id hC
  have hlb5 := hlb
  unfold g_life at hlb5
  have hdI2 : ∀ k : Nat, ¬ g_sV k → I2 k = I2 k := fun _ _ => rfl
  refine g_iconst hc dX1_askedBy_0 ?_
  refine g_istore_2 hc dX1_askedBy_1 rfl ?_
  refine g_iconst hc dX1_askedBy_2 ?_
  refine g_istore_3 hc dX1_askedBy_3 rfl ?_
  have lp_4 : ∀ (fu : Nat) (a i : Int), 0 ≤ i ∧ i ≤ I lb 0 → a = g_sum (fun s => if g_bit m s then g_dem I lb s else 0) i.toNat → I lb 0 - i < (fu : Int) → G w x (g_post (some (gvI (g_asb I lb m))) g_n I2 J R) 0 0 g_n I2 J R 4 [some (gvr w 686), some (gvI m), some (gvI a), some (gvI i)] [] := by
    intro fu
    induction fu with
    | zero => intro a i h3 h4 hfu; exfalso; omega
    | succ fu ih =>
      intro a i h3 h4 hfu
      have ih_4 := ih
      refine g_iload_n hc dX1_askedBy_4 rfl ?_
      refine g_aldn hc dX1_askedBy_5 rfl ?_
      refine g_getRk hc lk_X1_26 ca_686 (rc_686_0 hR) dX1_askedBy_6 ?_
      refine g_getRvk hc lk_X1_51 ca_548 (rc_548_3 hR) dX1_askedBy_9 ?_
      refine g_getIe hc lk_X1_55 (la_0 hlb) 0 rfl (congrFun (hsI2 _ (by omega)) _) dX1_askedBy_12 ?_
      refine g_icmp_ge (tgt := 46) hc dX1_askedBy_15 (by decide) (by first | exact hI _ _ | exact hxI2 _ _ | exact hIa _ _ | exact hIb _ _ | exact g_b32 | exact g_and32 | assumption | exact ⟨by omega, by omega⟩) (by first | exact hI _ _ | exact hxI2 _ _ | exact hIa _ _ | exact hIb _ _ | exact g_b32 | exact g_and32 | assumption | exact ⟨by omega, by omega⟩) (fun c1 => ?_) (fun c1 => ?_)
      · skip
        refine g_iload_n hc dX1_askedBy_46 rfl ?_
        refine g_iret hc hm dX1_askedBy_47 ?_
        exact g_postE (by rw [g_asb, h4, show I lb 0 = i by omega])
      · skip
        refine g_iload_n hc dX1_askedBy_18 rfl ?_
        refine g_iload_n hc dX1_askedBy_19 rfl ?_
        refine g_iload_n hc dX1_askedBy_20 rfl ?_
        refine g_ishr hc dX1_askedBy_21 ?_
        refine g_iconst hc dX1_askedBy_22 ?_
        refine g_iand hc dX1_askedBy_23 ?_
        refine g_iconst hc dX1_askedBy_24 ?_
        refine g_icmp_ne (tgt := 37) hc dX1_askedBy_25 (by decide) (by first | exact hI _ _ | exact hxI2 _ _ | exact hIa _ _ | exact hIb _ _ | exact g_b32 | exact g_and32 | assumption | exact ⟨by omega, by omega⟩) (by first | exact hI _ _ | exact hxI2 _ _ | exact hIa _ _ | exact hIb _ _ | exact g_b32 | exact g_and32 | assumption | exact ⟨by omega, by omega⟩) (fun c2 => ?_) (fun c2 => ?_)
        · skip
          refine g_iconst hc dX1_askedBy_37 ?_
          refine g_iadd hc dX1_askedBy_38 ?_
          refine g_istore_2 hc dX1_askedBy_39 rfl ?_
          refine g_iinc_3 hc dX1_askedBy_40 rfl ?_
          refine g_goto (tgt := 4) hc dX1_askedBy_43 (by decide) ?_
          refine ih_4 _ _ ?_ ?_ ?_
          · omega
          · rw [g_sum_i h3.1, h4]; first | (rw [if_pos (by assumption), hAI2 i h3.1 (by omega)]) | (rw [if_neg (by assumption)])
          · omega
        · skip
          refine g_aldn hc dX1_askedBy_28 rfl ?_
          refine g_getRk hc lk_X1_15 ca_686 (rc_686_3 hR) dX1_askedBy_29 ?_
          refine g_iload_n hc dX1_askedBy_32 rfl ?_
          refine g_iald hc ca_688 (by decide) (by omega) (by omega) dX1_askedBy_33 ?_
          refine g_goto (tgt := 38) hc dX1_askedBy_34 (by decide) ?_
          refine g_iadd hc dX1_askedBy_38 ?_
          refine g_istore_2 hc dX1_askedBy_39 rfl ?_
          refine g_iinc_3 hc dX1_askedBy_40 rfl ?_
          refine g_goto (tgt := 4) hc dX1_askedBy_43 (by decide) ?_
          refine ih_4 _ _ ?_ ?_ ?_
          · omega
          · rw [g_sum_i h3.1, h4]; first | (rw [if_pos (by assumption), hAI2 i h3.1 (by omega)]) | (rw [if_neg (by assumption)])
          · omega
  refine lp_4 (I lb 0 + 1).toNat _ _ ?_ ?_ (?_)
  · omega
  · rfl
  · omega
set_option maxHeartbeats 4000000 in
set_option maxRecDepth 100000 in
/-- X1_fewestAway -/
theorem c_X1_fewestAway (w : g_W) {I : g_I} {J : g_J} {R : g_R} {lb tx : Nat} (hR : g_rf w R lb tx) (hlb : g_life lb) {I2 : g_I} (hI : ∀ k j, g32 (I k j)) (hsI2 : g_off I I2) (hxI2 : ∀ k j, g32 (I2 k j)) (hC : g_cin I lb) {pot : Int} (h1 : 0 ≤ pot ∧ pot ≤ 9999) : g_Met w g_n I2 J R yX1_fewestAway cX1_fewestAway 5 (some .int) 6 0 0 [(gvr w 686), (gvI pot)] (fun rr nn II JJ RR => g_rel w (some (gvI (g_awy I lb pot))) g_sD I2 J R rr nn II JJ RR) := by
  refine g_intro (own := RX1) [some (gvr w 686), some (gvI pot), none, none, none] (by decide +kernel) rfl (by decide) (Nat.le_of_ble_eq_true rfl) rfl (fun i v hv => g_args 3 i v hv rfl) (fun x hc hm => ?_)
  have hL := hC.1
  obtain ⟨hn0, hn1, hLs, hLf⟩ := id hL
  obtain ⟨-, hC1, hC2, hC3, hC4, hC5, hC6, hC7⟩ := id hC
  have hlb5 := hlb
  unfold g_life at hlb5
  have hdI2 : ∀ k : Nat, ¬ g_sD k → I2 k = I2 k := fun _ _ => rfl
  have hsp := g_shl_p (k := I lb 0) (by omega)
  have hdm := g_sum_in (f := g_dem I lb) (m := 693) (I lb 0).toNat (fun i h0 h3 => g_dem_in hL (by omega))
  change 0 ≤ g_dms I lb ∧ g_dms I lb ≤ _ at hdm
  refine g_aldn hc dX1_fewestAway_0 rfl ?_
  refine g_V0 hc (c_X1_demands w hR hlb hI hsI2 hxI2 hC) my_X1_demands mv_X1_demands ca_686 rfl rfl lm_X1_78 rfl (by decide) (Nat.le_of_ble_eq_true rfl) hm dX1_fewestAway_1 (fun r3 n3 I3 J3 R3 hp3 => ?_)
  obtain ⟨⟨rfl, rfl, hfI3, hxI3, rfl, rfl⟩, hAI3⟩ := hp3
  have hsI3 : g_off I I3 := fun k hk => (hfI3 k (fun q => hk (by omega))).trans (hsI2 k hk)
  have hdI3 : ∀ k : Nat, ¬ g_sD k → I3 k = I2 k := fun k hk => (hfI3 k (fun q => hk (by omega))).trans (hdI2 k hk)
  refine g_iload_n hc dX1_fewestAway_4 rfl ?_
  refine g_isub hc dX1_fewestAway_5 ?_
  refine g_istore_2 hc dX1_fewestAway_6 rfl ?_
  refine g_iconst hc dX1_fewestAway_7 ?_
  refine g_aldn hc dX1_fewestAway_8 rfl ?_
  refine g_getRk hc lk_X1_26 ca_686 (rc_686_0 hR) dX1_fewestAway_9 ?_
  refine g_getRvk hc lk_X1_51 ca_548 (rc_548_3 hR) dX1_fewestAway_12 ?_
  refine g_getIe hc lk_X1_55 (la_0 hlb) 0 rfl (congrFun (hsI3 _ (by omega)) _) dX1_fewestAway_15 ?_
  refine g_ishl hc dX1_fewestAway_18 ?_
  refine g_iconst hc dX1_fewestAway_19 ?_
  refine g_isub hc dX1_fewestAway_20 ?_
  refine g_istore_3 hc dX1_fewestAway_21 rfl ?_
  refine g_iconst hc dX1_fewestAway_22 ?_
  refine g_istore_4 hc dX1_fewestAway_23 rfl ?_
  have lp_25 : ∀ (fu : Nat) (a i : Int), 0 ≤ i ∧ i ≤ g_shl 1 (I lb 0) → a = g_awn I lb pot i.toNat → g_shl 1 (I lb 0) - i < (fu : Int) → G w x (fun rr nn II JJ RR => g_rel w (some (gvI (g_awy I lb pot))) g_sD I2 J R rr nn II JJ RR) 0 0 g_n I3 J R 25 [some (gvr w 686), some (gvI pot), some (gvI ((g_dms I lb) - pot)), some (gvI a), some (gvI i)] [] := by
    intro fu
    induction fu with
    | zero => intro a i h3 h4 hfu; exfalso; omega
    | succ fu ih =>
      intro a i h3 h4 hfu
      have hbi := g_bc_in (a := i)
      have hba := g_bc_in (a := a)
      have hasb : ∀ m : Int, 0 ≤ g_asb I lb m ∧ g_asb I lb m ≤ 9000 := fun m => by
        have := g_sum_in (f := fun s => if g_bit m s then g_dem I lb s else 0) (m := 693) (I lb 0).toNat (fun i h0 h3 => by have := g_dem_in hL (s := i) (by omega); split <;> omega)
        change 0 ≤ g_asb I lb m ∧ g_asb I lb m ≤ _ at this
        omega
      have hasi := hasb i
      have ih_25 := ih
      refine g_iload hc dX1_fewestAway_25 rfl ?_
      refine g_iconst hc dX1_fewestAway_27 ?_
      refine g_aldn hc dX1_fewestAway_28 rfl ?_
      refine g_getRk hc lk_X1_26 ca_686 (rc_686_0 hR) dX1_fewestAway_29 ?_
      refine g_getRvk hc lk_X1_51 ca_548 (rc_548_3 hR) dX1_fewestAway_32 ?_
      refine g_getIe hc lk_X1_55 (la_0 hlb) 0 rfl (congrFun (hsI3 _ (by omega)) _) dX1_fewestAway_35 ?_
      refine g_ishl hc dX1_fewestAway_38 ?_
      refine g_icmp_ge (tgt := 73) hc dX1_fewestAway_39 (by decide) (by exact ⟨by omega, by omega⟩) g_shl32 (fun c1 => ?_) (fun c1 => ?_)
      · skip
        refine g_iload_n hc dX1_fewestAway_73 rfl ?_
        refine g_iret hc hm dX1_fewestAway_74 ?_
        exact g_relE (by rw [h4, g_awy, show g_shl 1 (I lb 0) = i by omega]) hdI3 hxI3
      · skip
        refine g_iload hc dX1_fewestAway_42 rfl ?_
        refine g_S1r hc (c_J6_bitCount_0f7a4 w) my_J6_bitCount_0f7a4 ms_J6_bitCount_0f7a4 lm_X1_82 rfl (by decide) (Nat.le_of_ble_eq_true rfl) hm dX1_fewestAway_44 ?_
        refine g_iload_n hc dX1_fewestAway_47 rfl ?_
        refine g_S1r hc (c_J6_bitCount_0f7a4 w) my_J6_bitCount_0f7a4 ms_J6_bitCount_0f7a4 lm_X1_82 rfl (by decide) (Nat.le_of_ble_eq_true rfl) hm dX1_fewestAway_48 ?_
        refine g_icmp_ge (tgt := 67) hc dX1_fewestAway_51 (by decide) g_bc32 g_bc32 (fun c2 => ?_) (fun c2 => ?_)
        · skip
          refine g_iinc_4 hc dX1_fewestAway_67 rfl ?_
          refine g_goto (tgt := 25) hc dX1_fewestAway_70 (by decide) ?_
          refine ih_25 _ _ ?_ ?_ ?_
          · omega
          · rw [g_awn_i h3.1, ← h4]; first | rw [if_pos ⟨by omega, by omega⟩] | rw [if_neg (fun z => by omega)]
          · omega
        · skip
          refine g_aldn hc dX1_fewestAway_54 rfl ?_
          refine g_iload hc dX1_fewestAway_55 rfl ?_
          refine g_V1r hc (c_X1_askedBy w hR hlb hI hsI3 hxI3 hC hAI3) my_X1_askedBy mv_X1_askedBy ca_686 rfl rfl lm_X1_87 rfl (by decide) (Nat.le_of_ble_eq_true rfl) hm dX1_fewestAway_57 ?_
          refine g_iload_n hc dX1_fewestAway_60 rfl ?_
          refine g_icmp_lt (tgt := 67) hc dX1_fewestAway_61 (by decide) (by exact ⟨by omega, by omega⟩) (by exact ⟨by omega, by omega⟩) (fun c3 => ?_) (fun c3 => ?_)
          · skip
            refine g_iinc_4 hc dX1_fewestAway_67 rfl ?_
            refine g_goto (tgt := 25) hc dX1_fewestAway_70 (by decide) ?_
            refine ih_25 _ _ ?_ ?_ ?_
            · omega
            · rw [g_awn_i h3.1, ← h4]; first | rw [if_pos ⟨by omega, by omega⟩] | rw [if_neg (fun z => by omega)]
            · omega
          · skip
            refine g_iload hc dX1_fewestAway_64 rfl ?_
            refine g_istore_3 hc dX1_fewestAway_66 rfl ?_
            refine g_iinc_4 hc dX1_fewestAway_67 rfl ?_
            refine g_goto (tgt := 25) hc dX1_fewestAway_70 (by decide) ?_
            refine ih_25 _ _ ?_ ?_ ?_
            · omega
            · rw [g_awn_i h3.1, ← h4]; first | rw [if_pos ⟨by omega, by omega⟩] | rw [if_neg (fun z => by omega)]
            · omega
  refine lp_25 (g_shl 1 (I lb 0) + 1).toNat _ _ ?_ ?_ (?_)
  · omega
  · rfl
  · omega
