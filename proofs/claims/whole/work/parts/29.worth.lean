set_option maxHeartbeats 4000000 in
set_option maxRecDepth 100000 in
/-- X7_worthBy -/
theorem c_X7_worthBy (w : g_W) {I : g_I} {J : g_J} {R : g_R} {lb tx : Nat} (hR : g_rf w R lb tx) (hlb : g_life lb) {I2 : g_I} (hI : ∀ k j, g32 (I k j)) (hsI2 : g_off I I2) (hxI2 : ∀ k j, g32 (I2 k j)) (hC : g_cin I lb) {τ s : Int} (h1 : 0 ≤ τ ∧ τ < I 0 11) (h2 : 0 ≤ s ∧ s < I lb 0) : g_Met w g_n I2 J R yX7_worthBy cX7_worthBy 3 (some .int) 3 0 0 [(gvr w 548), (gvI τ), (gvI s)] (fun rr nn II JJ RR => g_rel w (some (gvI (g_wby I lb τ s))) g_sT I2 J R rr nn II JJ RR ∧ -1000300 ≤ g_wby I lb τ s ∧ g_wby I lb τ s ≤ 1000300) := by
  refine g_intro (own := RX7) [some (gvr w 548), some (gvI τ), some (gvI s)] (by decide +kernel) rfl (by decide) (Nat.le_of_ble_eq_true rfl) rfl (fun i v hv => g_args 0 i v hv rfl) (fun x hc hm => ?_)
  have hL := hC.1
  obtain ⟨hn0, hn1, hLs, hLf⟩ := id hL
  obtain ⟨-, hC1, hC2, hC3, hC4, hC5, hC6, hC7⟩ := id hC
  have hlb5 := hlb
  unfold g_life at hlb5
  have hdI2 : ∀ k : Nat, ¬ g_sT k → I2 k = I2 k := fun _ _ => rfl
  refine g_aldn hc dX7_worthBy_0 rfl ?_
  refine g_getRvk hc lk_X7_25 ca_548 (rc_548_3 hR) dX7_worthBy_1 ?_
  refine g_getRk hc lk_X7_62 (la_0 hlb) (rl_2 hR hlb) dX7_worthBy_4 ?_
  refine g_iload_n hc dX7_worthBy_7 rfl ?_
  refine g_aaldk hc (la_1 hlb) (by decide) rfl rfl (by decide) (by omega) (by omega) (rl_has hR hlb (by omega) (by omega)) dX7_worthBy_8 ?_
  refine g_iconst hc dX7_worthBy_9 ?_
  refine g_aldn hc dX7_worthBy_10 rfl ?_
  refine g_getRk hc lk_X7_18 ca_548 (rc_548_2 hR) dX7_worthBy_11 ?_
  refine g_iconst hc dX7_worthBy_14 ?_
  refine g_bipush hc dX7_worthBy_15 (by decide +kernel) ?_
  refine g_copy hc (la_has hlb (by omega) (by omega)) ca_554 (by decide) (by decide) rfl ac_X7_65 ac_nat ac_sta ac_ini (by omega) (by omega) (by omega) (by omega) (by omega) (by decide) (Nat.le_of_ble_eq_true rfl) dX7_worthBy_17 (fun I3 hI3 => ?_)
  have hsI3 : g_off I I3 := fun k hk => by
    rw [hI3]; funext j; rw [g_cpy_k (by omega)]; exact congrFun (hsI2 k hk) j
  have hxI3 : ∀ k j, g32 (I3 k j) := by rw [hI3]; exact g_cpy32 hxI2
  have hfI3 : ∀ k : Nat, k ≠ 554 → I3 k = I2 k := fun k hk => by rw [hI3]; funext j; exact g_cpy_k hk
  have hdI3 : ∀ k : Nat, ¬ g_sT k → I3 k = I2 k := fun k hk => (hfI3 k (by omega)).trans (hdI2 k hk)
  refine g_aldn hc dX7_worthBy_20 rfl ?_
  refine g_getRk hc lk_X7_18 ca_548 (rc_548_2 hR) dX7_worthBy_21 ?_
  refine g_bipush hc dX7_worthBy_24 (by decide +kernel) ?_
  refine g_iconst hc dX7_worthBy_26 ?_
  obtain ⟨I4, hI4⟩ : ∃ I4, I4 = g_up I3 554 6 0 := ⟨_, rfl⟩
  have hsI4 : g_off I I4 := fun k hk => by
    rw [hI4]; funext j; rw [g_up_k (by omega)]; exact congrFun (hsI3 k hk) j
  have hfI4 : ∀ k : Nat, k ≠ 554 → I4 k = I3 k := fun k hk => by rw [hI4]; funext j; exact g_up_k hk
  have hdI4 : ∀ k : Nat, ¬ g_sT k → I4 k = I2 k := fun k hk => (hfI4 k (by omega)).trans (hdI3 k hk)
  have hxI4 : ∀ k j, g32 (I4 k j) := by rw [hI4]; exact g_up32 hxI3 (by first | exact hI _ _ | exact hxI2 _ _ | exact hIa _ _ | exact hIb _ _ | exact g_b32 | exact g_and32 | assumption | exact ⟨by omega, by omega⟩)
  refine g_iaste (I2 := I4) hc ca_554 (by decide) (by omega) (by omega) hI4.symm dX7_worthBy_27 ?_
  refine g_aldn hc dX7_worthBy_28 rfl ?_
  refine g_getRk hc lk_X7_18 ca_548 (rc_548_2 hR) dX7_worthBy_29 ?_
  refine g_bipush hc dX7_worthBy_32 (by decide +kernel) ?_
  refine g_iconst hc dX7_worthBy_34 ?_
  obtain ⟨I5, hI5⟩ : ∃ I5, I5 = g_up I4 554 7 0 := ⟨_, rfl⟩
  have hsI5 : g_off I I5 := fun k hk => by
    rw [hI5]; funext j; rw [g_up_k (by omega)]; exact congrFun (hsI4 k hk) j
  have hfI5 : ∀ k : Nat, k ≠ 554 → I5 k = I4 k := fun k hk => by rw [hI5]; funext j; exact g_up_k hk
  have hdI5 : ∀ k : Nat, ¬ g_sT k → I5 k = I2 k := fun k hk => (hfI5 k (by omega)).trans (hdI4 k hk)
  have hxI5 : ∀ k j, g32 (I5 k j) := by rw [hI5]; exact g_up32 hxI4 (by first | exact hI _ _ | exact hxI2 _ _ | exact hIa _ _ | exact hIb _ _ | exact g_b32 | exact g_and32 | assumption | exact ⟨by omega, by omega⟩)
  refine g_iaste (I2 := I5) hc ca_554 (by decide) (by omega) (by omega) hI5.symm dX7_worthBy_35 ?_
  have hT := hC2 τ h1.1 h1.2
  obtain ⟨-, -, hr0, hr1, hr2, hr3, hr4, hr5, -⟩ := hLs s h2.1 h2.2
  have h554 : ∀ k : Int, 0 ≤ k → k < 8 → I5 554 k = g_lt6 (I (lb + 2 + s.toNat)) k := by
    intro k hk0 hk1
    rw [hI5, hI4, hI3]
    unfold g_lt6 g_up g_cpy
    by_cases e7 : k = 7
    · simp [e7]
    · by_cases e6 : k = 6
      · simp [e6]
      · have e5 : (0 : Int) ≤ k ∧ k < 0 + 6 := by omega
        have e8 : (0 : Int) + (k - 0) = k := by omega
        simp only [e7, e6, and_false, if_false, true_and, e5, if_true, and_self, e8]
        rw [hsI2 _ (g_nl hlb (by omega) (by omega))]
  have hLb : ∀ k : Int, 0 ≤ k → k < 8 → -1000000 ≤ g_lt6 (I (lb + 2 + s.toNat)) k ∧ g_lt6 (I (lb + 2 + s.toNat)) k ≤ 1000000 := by
    intro k hk0 hk1
    unfold g_lt6
    by_cases e7 : k = 7
    · rw [if_pos e7]; omega
    · by_cases e6 : k = 6
      · rw [if_neg e7, if_pos e6]; omega
      · rw [if_neg e7, if_neg e6]
        rcases (show k = 0 ∨ k = 1 ∨ k = 2 ∨ k = 3 ∨ k = 4 ∨ k = 5 by omega) with rfl | rfl | rfl | rfl | rfl | rfl <;> omega
  refine g_aldn hc dX7_worthBy_36 rfl ?_
  refine g_getRk hc lk_X7_29 ca_548 (rc_548_0 hR) dX7_worthBy_37 ?_
  refine g_iload_n hc dX7_worthBy_40 rfl ?_
  refine g_aaldk hc ca_516 (by decide) rfl rfl (by decide) (by omega) (by omega) (ra_516 hR (by omega) (by omega)) dX7_worthBy_41 ?_
  refine g_aldn hc dX7_worthBy_42 rfl ?_
  refine g_getRk hc lk_X7_18 ca_548 (rc_548_2 hR) dX7_worthBy_43 ?_
  refine g_V1 hc (c_X9_reckon w hR hxI5 (gt_of (i := τ) (by omega) (by omega)) (g_tok_cg hsI5 (gt_of (i := τ) (by omega) (by omega)) hT) (fun k h0 h1 => by rw [h554 k h0 h1]; exact hLb k h0 h1)) my_X9_reckon mv_X9_reckon (ta_0 (gt_of (i := τ) (by omega) (by omega))) rfl rfl lm_X7_71 rfl (by decide) (Nat.le_of_ble_eq_true rfl) hm dX7_worthBy_46 (fun r6 n6 I6 J6 R6 hp6 => ?_)
  obtain ⟨⟨rfl, rfl, hfI6, hxI6, rfl, rfl⟩, hb6⟩ := g_rconv hsI5 (gt_of (i := τ) (by omega) (by omega)) hT h554 hp6
  have hsI6 : g_off I I6 := fun k hk => (hfI6 k (fun q => hk (by omega))).trans (hsI5 k hk)
  have hdI6 : ∀ k : Nat, ¬ g_sT k → I6 k = I2 k := fun k hk => (hfI6 k (fun q => hk (by omega))).trans (hdI5 k hk)
  refine g_iret hc hm dX7_worthBy_49 ?_
  exact ⟨⟨rfl, rfl, hdI6, hxI6, rfl, rfl⟩, hb6⟩
set_option maxHeartbeats 4000000 in
set_option maxRecDepth 100000 in
/-- X7_liked -/
theorem c_X7_liked (w : g_W) {I : g_I} {J : g_J} {R : g_R} {lb tx : Nat} (hR : g_rf w R lb tx) (hlb : g_life lb) {I2 : g_I} (hI : ∀ k j, g32 (I k j)) (hsI2 : g_off I I2) (hxI2 : ∀ k j, g32 (I2 k j)) (hC : g_cin I lb) {s : Int} (h2 : 0 ≤ s ∧ s < I lb 0) : g_Met w g_n I2 J R yX7_liked cX7_liked 4 (some .int) 4 0 0 [(gvr w 548), (gvI s)] (fun rr nn II JJ RR => g_rel w (some (gvI (g_lkd I lb s))) g_sT I2 J R rr nn II JJ RR ∧ -1000300 ≤ g_lkd I lb s ∧ g_lkd I lb s ≤ 1000300) := by
  refine g_intro (own := RX7) [some (gvr w 548), some (gvI s), none, none] (by decide +kernel) rfl (by decide) (Nat.le_of_ble_eq_true rfl) rfl (fun i v hv => g_args 2 i v hv rfl) (fun x hc hm => ?_)
  have hL := hC.1
  obtain ⟨hn0, hn1, hLs, hLf⟩ := id hL
  obtain ⟨-, hC1, hC2, hC3, hC4, hC5, hC6, hC7⟩ := id hC
  have hlb5 := hlb
  unfold g_life at hlb5
  have hdI2 : ∀ k : Nat, ¬ g_sT k → I2 k = I2 k := fun _ _ => rfl
  obtain ⟨-, -, hr0, hr1, hr2, hr3, hr4, hr5, -⟩ := hLs s h2.1 h2.2
  refine g_aldn hc dX7_liked_0 rfl ?_
  refine g_getRk hc lk_X7_12 ca_548 (rc_548_1 hR) dX7_liked_1 ?_
  refine g_getRk hc lk_X7_33 ca_549 (rc_549_0 hR) dX7_liked_4 ?_
  refine g_iconst hc dX7_liked_7 ?_
  refine g_ialde hc ca_550 (by decide) (by omega) (by omega) (congrFun (hsI2 _ (by decide)) _) dX7_liked_8 ?_
  refine g_istore_2 hc dX7_liked_9 rfl ?_
  refine g_aldn hc dX7_liked_10 rfl ?_
  refine g_getRvk hc lk_X7_25 ca_548 (rc_548_3 hR) dX7_liked_11 ?_
  refine g_getRk hc lk_X7_62 (la_0 hlb) (rl_2 hR hlb) dX7_liked_14 ?_
  refine g_iload_n hc dX7_liked_17 rfl ?_
  refine g_aaldk hc (la_1 hlb) (by decide) rfl rfl (by decide) (by omega) (by omega) (rl_has hR hlb (by omega) (by omega)) dX7_liked_18 ?_
  refine g_astore_3 hc dX7_liked_19 rfl ?_
  refine g_iload_n hc dX7_liked_20 rfl ?_
  refine g_iconst hc dX7_liked_21 ?_
  refine g_icmp_ne (tgt := 39) hc dX7_liked_22 (by decide) (by first | exact hI _ _ | exact hxI2 _ _ | exact hIa _ _ | exact hIb _ _ | exact g_b32 | exact g_and32 | assumption | exact ⟨by omega, by omega⟩) (by first | exact hI _ _ | exact hxI2 _ _ | exact hIa _ _ | exact hIb _ _ | exact g_b32 | exact g_and32 | assumption | exact ⟨by omega, by omega⟩) (fun c1 => ?_) (fun c1 => ?_)
  · skip
    refine g_aldn hc dX7_liked_39 rfl ?_
    refine g_iload_n hc dX7_liked_40 rfl ?_
    refine g_iload_n hc dX7_liked_41 rfl ?_
    refine g_V2 hc (c_X7_worthBy w hR hlb hI hsI2 hxI2 hC (by omega) (by omega)) my_X7_worthBy mv_X7_worthBy ca_548 rfl rfl lm_X7_77 rfl (by decide) (Nat.le_of_ble_eq_true rfl) hm dX7_liked_42 (fun r3 n3 I3 J3 R3 hp3 => ?_)
    obtain ⟨⟨rfl, rfl, hfI3, hxI3, rfl, rfl⟩, hb3⟩ := hp3
    have hsI3 : g_off I I3 := fun k hk => (hfI3 k (fun q => hk (by omega))).trans (hsI2 k hk)
    have hdI3 : ∀ k : Nat, ¬ g_sT k → I3 k = I2 k := fun k hk => (hfI3 k (fun q => hk (by omega))).trans (hdI2 k hk)
    refine g_iret hc hm dX7_liked_45 ?_
    first | (exfalso; omega) | (rw [g_lkd, if_pos (by assumption)]; exact ⟨⟨rfl, rfl, hdI3, hxI3, rfl, rfl⟩, by omega⟩) | (rw [g_lkd, if_neg (by assumption)]; exact ⟨⟨rfl, rfl, hdI3, hxI3, rfl, rfl⟩, hb3⟩)
  · skip
    refine g_aldn hc dX7_liked_25 rfl ?_
    refine g_iconst hc dX7_liked_26 ?_
    refine g_ialde hc (la_has hlb (by omega) (by omega)) (by decide) (by omega) (by omega) (congrFun (hsI2 _ (by omega)) _) dX7_liked_27 ?_
    refine g_aldn hc dX7_liked_28 rfl ?_
    refine g_iconst hc dX7_liked_29 ?_
    refine g_ialde hc (la_has hlb (by omega) (by omega)) (by decide) (by omega) (by omega) (congrFun (hsI2 _ (by omega)) _) dX7_liked_30 ?_
    refine g_iadd hc dX7_liked_31 ?_
    refine g_aldn hc dX7_liked_32 rfl ?_
    refine g_iconst hc dX7_liked_33 ?_
    refine g_ialde hc (la_has hlb (by omega) (by omega)) (by decide) (by omega) (by omega) (congrFun (hsI2 _ (by omega)) _) dX7_liked_34 ?_
    refine g_isub hc dX7_liked_35 ?_
    refine g_goto (tgt := 45) hc dX7_liked_36 (by decide) ?_
    refine g_iret hc hm dX7_liked_45 ?_
    first | (exfalso; omega) | (rw [g_lkd, if_pos (by assumption)]; exact ⟨⟨rfl, rfl, hdI2, hxI2, rfl, rfl⟩, by omega⟩) | (rw [g_lkd, if_neg (by assumption)]; exact ⟨⟨rfl, rfl, hdI2, hxI2, rfl, rfl⟩, hb3⟩)
