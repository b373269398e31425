/-- the births that are kept -/
def q_brt (I M : g_I) : Prop := M 703 41 = I 701 2 ∧ (0 ≤ I 701 2 ∧ I 701 2 ≤ 60) ∧ ∀ i : Int, 0 ≤ i → i < I 701 2 → M 725 i = I 702 i
def x_fk (I : g_I) (b : Nat) (f k : Int) : Int := if k = 0 then I (b + 41) f else if k = 1 then I (b + 42) f else if k = 2 then I (b + 43) f else if k = 3 then g_bc (I 550 (4 + f)) else if k = 4 then I (b + 44) f else I (b + 45) f
def x_br (I : g_I) (b : Nat) (f r k : Int) : Int := if k = 5 then g_b (g_bit (I 550 (4 + f)) r) else if k = 6 then I (b + 127) (f * 4 + r) else I (b + 47 + (f * 4 + r).toNat) k
theorem q_fkk {I M : g_I} {lb : Nat} (h : q_rel I lb M) {f k : Int} (h1 : 0 ≤ f ∧ f < I lb 1) (hk : 0 ≤ k ∧ k < 3) : M 709 ((I 0 12 * 18 + f) * 5 + k) = x_fk I lb f k := by
  unfold x_fk
  rcases (show k = 0 ∨ k = 1 ∨ k = 2 by omega) with rfl | rfl | rfl
  · rw [Int.add_zero]; exact q_yr h h1
  · exact q_kd h h1
  · exact q_bm h h1
set_option maxHeartbeats 4000000 in
set_option maxRecDepth 100000 in
/-- X13_odds -/
theorem c_X13_odds (w : g_W) {I : g_I} {J : g_J} {R : g_R} {lb tx : Nat} (hR : g_rf w R lb tx) {M : g_I} (hmM : q_rel I lb M) {s : Int} (g1 : g32 s) : g_Met w g_n M J R yX13_odds cX13_odds 2 (some .int) 38 0 0 [(gvr w 703), (gvI s)] (x_rel w (some (gvI (if (0 ≤ s ∧ s < I lb 0) then g_pts I lb s 0 else -1))) x_a M J lb) := by
  refine g_intro (own := RX13) [some (gvr w 703), some (gvI s)] (by decide +kernel) rfl (by decide) (Nat.le_of_ble_eq_true rfl) rfl (fun i v hv => g_args 0 i v hv rfl) (fun x hc hm => ?_)
  have hfM : ∀ (k : Nat) (j : Int), ¬ x_a k j → M k j = M k j := fun _ _ _ => rfl
  have hI := hmM.gi
  have hTb := q_b1 hmM
  have hLv := hmM.lv
  have hC := hmM.cin
  have hL := hC.1
  obtain ⟨hn0, hn1, hLs, hLf⟩ := id hL
  obtain ⟨-, hC1, hC2, hC3, hC4, hC5, hC6, hC7⟩ := id hC
  have hN0 := q_n0 hmM
  refine g_aldn hc dX13_odds_0 rfl ?_
  refine g_iconst hc dX13_odds_1 ?_
  refine g_putI' hc lk_X13_102 ca_703 0 rfl dX13_odds_2 (fun I3 hI3 => ?_)
  have hmI3 : q_rel I lb I3 := by rw [hI3]; exact q_up hmM (by unfold x_a; omega) (by first | exact hI _ _ | exact hmM.g _ _ | exact g_b32 | exact g_and32 | exact g_or32 | exact g_shl32 | assumption | exact ⟨by omega, by omega⟩)
  have hfI3 : ∀ (k : Nat) (j : Int), ¬ x_a k j → I3 k j = M k j := fun k j hk => by rw [hI3]; exact (g_up_n (by unfold x_a at hk; omega)).trans (hfM k j hk)
  refine g_aldn hc dX13_odds_5 rfl ?_
  refine g_iload_n hc dX13_odds_6 rfl ?_
  refine g_V1r hc (c_X13_isSelf w hR hmI3 (by first | exact hI _ _ | exact hmM.g _ _ | exact g_b32 | exact g_and32 | exact g_or32 | exact g_shl32 | assumption | exact ⟨by omega, by omega⟩)) my_X13_isSelf mv_X13_isSelf ca_703 rfl rfl lm_X13_313 rfl (by decide) (Nat.le_of_ble_eq_true rfl) hm dX13_odds_7 ?_
  refine g_ifb_eq (tgt := 21) hc dX13_odds_10 (by decide)  (fun c1 => ?_) (fun c1 => ?_)
  · skip
    refine g_iconst hc dX13_odds_21 ?_
    refine g_iret hc hm dX13_odds_22 ?_
    exact x_end (by rw [if_neg (by omega)]) hfI3 hmI3.g hR
  · skip
    refine g_aldn hc dX13_odds_13 rfl ?_
    refine g_iload_n hc dX13_odds_14 rfl ?_
    refine g_V1 hc (c_X13_oddsOf w hR hmI3 (by omega)) my_X13_oddsOf mv_X13_oddsOf ca_703 rfl rfl lm_X13_364 rfl (by decide) (Nat.le_of_ble_eq_true rfl) hm dX13_odds_15 (fun r4 n4 I4 J4 R4 hp4 => ?_)
    obtain ⟨⟨rfl, rfl, hK4, hX4, rfl, t4, hR⟩, hl4⟩ := hp4
    have hmI4 : q_rel I lb I4 := q_cg hK4 hX4 hmI3
    have hfI4 : ∀ (k : Nat) (j : Int), ¬ x_a k j → I4 k j = M k j := fun k j hk => (hK4 k j hk).trans (hfI3 k j hk)
    refine g_goto (tgt := 22) hc dX13_odds_18 (by decide) ?_
    refine g_iret hc hm dX13_odds_22 ?_
    exact x_end (by rw [if_pos (by omega)]) hfI4 hmI4.g hR
set_option maxHeartbeats 4000000 in
set_option maxRecDepth 100000 in
/-- X13_worth -/
theorem c_X13_worth (w : g_W) {I : g_I} {J : g_J} {R : g_R} {lb tx : Nat} (hR : g_rf w R lb tx) {M : g_I} (hmM : q_rel I lb M) {s : Int} (g1 : g32 s) : g_Met w g_n M J R yX13_worth cX13_worth 2 (some .int) 36 0 0 [(gvr w 703), (gvI s)] (x_rel w (some (gvI (if (0 ≤ s ∧ s < I lb 0) then g_lkd I lb s else -2000000000))) x_a M J lb) := by
  refine g_intro (own := RX13) [some (gvr w 703), some (gvI s)] (by decide +kernel) rfl (by decide) (Nat.le_of_ble_eq_true rfl) rfl (fun i v hv => g_args 0 i v hv rfl) (fun x hc hm => ?_)
  have hfM : ∀ (k : Nat) (j : Int), ¬ x_a k j → M k j = M k j := fun _ _ _ => rfl
  have hI := hmM.gi
  have hTb := q_b1 hmM
  have hLv := hmM.lv
  have hC := hmM.cin
  have hL := hC.1
  obtain ⟨hn0, hn1, hLs, hLf⟩ := id hL
  obtain ⟨-, hC1, hC2, hC3, hC4, hC5, hC6, hC7⟩ := id hC
  have hN0 := q_n0 hmM
  refine g_aldn hc dX13_worth_0 rfl ?_
  refine g_iconst hc dX13_worth_1 ?_
  refine g_putI' hc lk_X13_102 ca_703 0 rfl dX13_worth_2 (fun I3 hI3 => ?_)
  have hmI3 : q_rel I lb I3 := by rw [hI3]; exact q_up hmM (by unfold x_a; omega) (by first | exact hI _ _ | exact hmM.g _ _ | exact g_b32 | exact g_and32 | exact g_or32 | exact g_shl32 | assumption | exact ⟨by omega, by omega⟩)
  have hfI3 : ∀ (k : Nat) (j : Int), ¬ x_a k j → I3 k j = M k j := fun k j hk => by rw [hI3]; exact (g_up_n (by unfold x_a at hk; omega)).trans (hfM k j hk)
  refine g_aldn hc dX13_worth_5 rfl ?_
  refine g_iload_n hc dX13_worth_6 rfl ?_
  refine g_V1r hc (c_X13_isSelf w hR hmI3 (by first | exact hI _ _ | exact hmM.g _ _ | exact g_b32 | exact g_and32 | exact g_or32 | exact g_shl32 | assumption | exact ⟨by omega, by omega⟩)) my_X13_isSelf mv_X13_isSelf ca_703 rfl rfl lm_X13_313 rfl (by decide) (Nat.le_of_ble_eq_true rfl) hm dX13_worth_7 ?_
  refine g_ifb_eq (tgt := 21) hc dX13_worth_10 (by decide)  (fun c1 => ?_) (fun c1 => ?_)
  · skip
    refine g_ldcw (k := (-2000000000)) hc dX13_worth_21 _ lc_X13_376 (by decide +kernel) ?_
    refine g_iret hc hm dX13_worth_24 ?_
    exact x_end (by rw [if_neg (by omega)]) hfI3 hmI3.g hR
  · skip
    refine g_aldn hc dX13_worth_13 rfl ?_
    refine g_iload_n hc dX13_worth_14 rfl ?_
    refine g_V1 hc (c_X13_worthOf w hR hmI3 (by omega)) my_X13_worthOf mv_X13_worthOf ca_703 rfl rfl lm_X13_373 rfl (by decide) (Nat.le_of_ble_eq_true rfl) hm dX13_worth_15 (fun r4 n4 I4 J4 R4 hp4 => ?_)
    obtain ⟨rfl, rfl, hK4, hX4, rfl, t4, hR⟩ := hp4
    have hmI4 : q_rel I lb I4 := q_cg hK4 hX4 hmI3
    have hfI4 : ∀ (k : Nat) (j : Int), ¬ x_a k j → I4 k j = M k j := fun k j hk => (hK4 k j hk).trans (hfI3 k j hk)
    refine g_goto (tgt := 24) hc dX13_worth_18 (by decide) ?_
    refine g_iret hc hm dX13_worth_24 ?_
    exact x_end (by rw [if_pos (by omega)]) hfI4 hmI4.g hR
set_option maxHeartbeats 4000000 in
set_option maxRecDepth 100000 in
/-- X13_way -/
theorem c_X13_way (w : g_W) {I : g_I} {J : g_J} {R : g_R} {lb tx : Nat} (hR : g_rf w R lb tx) {M : g_I} (hmM : q_rel I lb M) {s i : Int} (g1 : g32 s) (g2 : g32 i) : g_Met w g_n M J R yX13_way cX13_way 3 (some .int) 2 0 0 [(gvr w 703), (gvI s), (gvI i)] (x_rel w (some (gvI (if (0 ≤ s ∧ s < I lb 0) ∧ 0 ≤ i ∧ i < I (lb + 14) s then 10 * I (lb + 16 + s.toNat) i + I (lb + 29 + s.toNat) i else -1))) x_a M J lb) := by
  refine g_intro (own := RX13) [some (gvr w 703), some (gvI s), some (gvI i)] (by decide +kernel) rfl (by decide) (Nat.le_of_ble_eq_true rfl) rfl (fun i v hv => g_args 0 i v hv rfl) (fun x hc hm => ?_)
  have hfM : ∀ (k : Nat) (j : Int), ¬ x_a k j → M k j = M k j := fun _ _ _ => rfl
  have hI := hmM.gi
  have hTb := q_b1 hmM
  have hLv := hmM.lv
  have hC := hmM.cin
  have hL := hC.1
  obtain ⟨hn0, hn1, hLs, hLf⟩ := id hL
  obtain ⟨-, hC1, hC2, hC3, hC4, hC5, hC6, hC7⟩ := id hC
  have hN0 := q_n0 hmM
  refine g_aldn hc dX13_way_0 rfl ?_
  refine g_iconst hc dX13_way_1 ?_
  refine g_putI' hc lk_X13_102 ca_703 0 rfl dX13_way_2 (fun I3 hI3 => ?_)
  have hmI3 : q_rel I lb I3 := by rw [hI3]; exact q_up hmM (by unfold x_a; omega) (by first | exact hI _ _ | exact hmM.g _ _ | exact g_b32 | exact g_and32 | exact g_or32 | exact g_shl32 | assumption | exact ⟨by omega, by omega⟩)
  have hfI3 : ∀ (k : Nat) (j : Int), ¬ x_a k j → I3 k j = M k j := fun k j hk => by rw [hI3]; exact (g_up_n (by unfold x_a at hk; omega)).trans (hfM k j hk)
  refine g_aldn hc dX13_way_5 rfl ?_
  refine g_iload_n hc dX13_way_6 rfl ?_
  refine g_V1r hc (c_X13_isSelf w hR hmI3 (by first | exact hI _ _ | exact hmM.g _ _ | exact g_b32 | exact g_and32 | exact g_or32 | exact g_shl32 | assumption | exact ⟨by omega, by omega⟩)) my_X13_isSelf mv_X13_isSelf ca_703 rfl rfl lm_X13_313 rfl (by decide) (Nat.le_of_ble_eq_true rfl) hm dX13_way_7 ?_
  refine g_ifb_ne (tgt := 15) hc dX13_way_10 (by decide)  (fun c1 => ?_) (fun c1 => ?_)
  · skip
    have h1 := c1
    have hTs := q_ts hmM (by omega)
    obtain ⟨hst, hway, -⟩ := hLs s h1.1 h1.2
    refine g_aldn hc dX13_way_15 rfl ?_
    refine g_aldn hc dX13_way_16 rfl ?_
    refine g_getIe hc lk_X13_52 ca_703 24 rfl (show I3 703 24 = I 0 12 from hmI3.tab) dX13_way_17 ?_
    refine g_iload_n hc dX13_way_20 rfl ?_
    refine g_V2 hc (c_X13_layWay w hR hmI3 (q_lfS hmI3 (by omega)) (by omega) (by omega)) my_X13_layWay mv_X13_layWay ca_703 rfl rfl lm_X13_310 rfl (by decide) (Nat.le_of_ble_eq_true rfl) hm dX13_way_21 (fun r4 n4 I4 J4 R4 hp4 => ?_)
    obtain ⟨⟨rfl, rfl, hK4, hX4, rfl, t4, hR⟩, hwI4⟩ := hp4
    have hmI4 : q_rel I lb I4 := q_cg (fun k j hk => hK4 k j (fun z => hk (x_wa z))) hX4 hmI3
    have hfI4 : ∀ (k : Nat) (j : Int), ¬ x_a k j → I4 k j = M k j := fun k j hk => (hK4 k j (fun z => hk (x_wa z))).trans (hfI3 k j hk)
    refine g_iload_n hc dX13_way_24 rfl ?_
    refine g_i2l hc dX13_way_25 (by first | exact hI _ _ | exact hxI2 _ _ | exact hIa _ _ | exact hIb _ _ | exact g_b32 | exact g_and32 | assumption | exact ⟨by omega, by omega⟩) ?_
    refine g_lconst hc dX13_way_26 0 (by decide +kernel) ?_
    refine g_aldn hc dX13_way_27 rfl ?_
    refine g_getIe hc lk_X13_307 ca_703 29 rfl (show I4 703 29 = I (lb + 14) s from hwI4.1) dX13_way_28 ?_
    refine g_iconst hc dX13_way_31 ?_
    refine g_isub hc dX13_way_32 ?_
    refine g_i2l hc dX13_way_33 (by first | exact hI _ _ | exact hxI2 _ _ | exact hIa _ _ | exact hIb _ _ | exact g_b32 | exact g_and32 | assumption | exact ⟨by omega, by omega⟩) ?_
    refine g_S3r hc (c_X13_isIn w (by first | exact hI _ _ | exact hmM.g _ _ | exact g_b32 | exact g_and32 | exact g_or32 | exact g_shl32 | assumption | exact ⟨by omega, by omega⟩) (by first | exact hI _ _ | exact hmM.g _ _ | exact g_b32 | exact g_and32 | exact g_or32 | exact g_shl32 | assumption | exact ⟨by omega, by omega⟩) (by first | exact hI _ _ | exact hmM.g _ _ | exact g_b32 | exact g_and32 | exact g_or32 | exact g_shl32 | assumption | exact ⟨by omega, by omega⟩)) my_X13_isIn ms_X13_isIn lm_X13_231 rfl (by decide) (Nat.le_of_ble_eq_true rfl) hm dX13_way_34 ?_
    refine g_ifb_eq (tgt := 59) hc dX13_way_37 (by decide)  (fun c2 => ?_) (fun c2 => ?_)
    · skip
      refine g_iconst hc dX13_way_59 ?_
      refine g_iret hc hm dX13_way_60 ?_
      exact x_end (by rw [if_neg (by omega)]) hfI4 hmI4.g hR
    · skip
      obtain ⟨hw8, hw9⟩ := hway i (by omega) (by omega)
      refine g_bipush hc dX13_way_40 (by decide +kernel) ?_
      refine g_aldn hc dX13_way_42 rfl ?_
      refine g_getRk hc lk_X13_63 ca_703 (rc_703_27 hR) dX13_way_43 ?_
      refine g_iload_n hc dX13_way_46 rfl ?_
      refine g_ialde hc ca_715 (by decide) (by omega) (by omega) (show I4 715 i = I (lb + 16 + s.toNat) i from (hwI4.2 _ (by omega) (by omega)).1) dX13_way_47 ?_
      refine g_imul hc dX13_way_48 ?_
      refine g_aldn hc dX13_way_49 rfl ?_
      refine g_getRk hc lk_X13_66 ca_703 (rc_703_28 hR) dX13_way_50 ?_
      refine g_iload_n hc dX13_way_53 rfl ?_
      refine g_ialde hc ca_716 (by decide) (by omega) (by omega) (show I4 716 i = I (lb + 29 + s.toNat) i from (hwI4.2 _ (by omega) (by omega)).2) dX13_way_54 ?_
      refine g_iadd hc dX13_way_55 ?_
      refine g_goto (tgt := 60) hc dX13_way_56 (by decide) ?_
      refine g_iret hc hm dX13_way_60 ?_
      exact x_end (by rw [if_pos (by omega)]) hfI4 hmI4.g hR
  · skip
    refine g_iconst hc dX13_way_13 ?_
    refine g_iret hc hm dX13_way_14 ?_
    exact x_end (by rw [if_neg (by omega)]) hfI3 hmI3.g hR
set_option maxHeartbeats 4000000 in
set_option maxRecDepth 100000 in
/-- X13_part_ -/
theorem c_X13_part_ (w : g_W) {I : g_I} {J : g_J} {R : g_R} {lb tx : Nat} (hR : g_rf w R lb tx) {M : g_I} (hmM : q_rel I lb M) {s t k : Int} (g1 : g32 s) (g2 : g32 t) (g3 : g32 k) : g_Met w g_n M J R yX13_part_ cX13_part_ 5 (some .int) 4 0 0 [(gvr w 703), (gvI s), (gvI t), (gvI k)] (x_rel w (some (gvI (if (((0 ≤ s ∧ s < I lb 0) ∧ 0 ≤ t ∧ t < I lb 0) ∧ ¬ s = t) ∧ 0 ≤ k ∧ k ≤ 1 then (if k = 0 then g_prt I lb s t else I (lb + 41) (g_prt I lb s t)) else -1))) x_a M J lb) := by
  refine g_intro (own := RX13) [some (gvr w 703), some (gvI s), some (gvI t), some (gvI k), none] (by decide +kernel) rfl (by decide) (Nat.le_of_ble_eq_true rfl) rfl (fun i v hv => g_args 1 i v hv rfl) (fun x hc hm => ?_)
  have hfM : ∀ (k : Nat) (j : Int), ¬ x_a k j → M k j = M k j := fun _ _ _ => rfl
  have hI := hmM.gi
  have hTb := q_b1 hmM
  have hLv := hmM.lv
  have hC := hmM.cin
  have hL := hC.1
  obtain ⟨hn0, hn1, hLs, hLf⟩ := id hL
  obtain ⟨-, hC1, hC2, hC3, hC4, hC5, hC6, hC7⟩ := id hC
  have hN0 := q_n0 hmM
  refine g_aldn hc dX13_part__0 rfl ?_
  refine g_iconst hc dX13_part__1 ?_
  refine g_putI' hc lk_X13_102 ca_703 0 rfl dX13_part__2 (fun I3 hI3 => ?_)
  have hmI3 : q_rel I lb I3 := by rw [hI3]; exact q_up hmM (by unfold x_a; omega) (by first | exact hI _ _ | exact hmM.g _ _ | exact g_b32 | exact g_and32 | exact g_or32 | exact g_shl32 | assumption | exact ⟨by omega, by omega⟩)
  have hfI3 : ∀ (k : Nat) (j : Int), ¬ x_a k j → I3 k j = M k j := fun k j hk => by rw [hI3]; exact (g_up_n (by unfold x_a at hk; omega)).trans (hfM k j hk)
  refine g_aldn hc dX13_part__5 rfl ?_
  refine g_iload_n hc dX13_part__6 rfl ?_
  refine g_V1r hc (c_X13_isSelf w hR hmI3 (by first | exact hI _ _ | exact hmM.g _ _ | exact g_b32 | exact g_and32 | exact g_or32 | exact g_shl32 | assumption | exact ⟨by omega, by omega⟩)) my_X13_isSelf mv_X13_isSelf ca_703 rfl rfl lm_X13_313 rfl (by decide) (Nat.le_of_ble_eq_true rfl) hm dX13_part__7 ?_
  refine g_ifb_eq (tgt := 36) hc dX13_part__10 (by decide)  (fun c1 => ?_) (fun c1 => ?_)
  · skip
    refine g_iconst hc dX13_part__36 ?_
    refine g_iret hc hm dX13_part__37 ?_
    exact x_end (by rw [if_neg (by omega)]) hfI3 hmI3.g hR
  · skip
    refine g_aldn hc dX13_part__13 rfl ?_
    refine g_iload_n hc dX13_part__14 rfl ?_
    refine g_V1r hc (c_X13_isSelf w hR hmI3 (by first | exact hI _ _ | exact hmM.g _ _ | exact g_b32 | exact g_and32 | exact g_or32 | exact g_shl32 | assumption | exact ⟨by omega, by omega⟩)) my_X13_isSelf mv_X13_isSelf ca_703 rfl rfl lm_X13_313 rfl (by decide) (Nat.le_of_ble_eq_true rfl) hm dX13_part__15 ?_
    refine g_ifb_eq (tgt := 36) hc dX13_part__18 (by decide)  (fun c2 => ?_) (fun c2 => ?_)
    · skip
      refine g_iconst hc dX13_part__36 ?_
      refine g_iret hc hm dX13_part__37 ?_
      exact x_end (by rw [if_neg (by omega)]) hfI3 hmI3.g hR
    · skip
      refine g_iload_n hc dX13_part__21 rfl ?_
      refine g_iload_n hc dX13_part__22 rfl ?_
      refine g_icmp_eq (tgt := 36) hc dX13_part__23 (by decide) (by first | exact hI _ _ | exact hxI2 _ _ | exact hIa _ _ | exact hIb _ _ | exact g_b32 | exact g_and32 | assumption | exact ⟨by omega, by omega⟩) (by first | exact hI _ _ | exact hxI2 _ _ | exact hIa _ _ | exact hIb _ _ | exact g_b32 | exact g_and32 | assumption | exact ⟨by omega, by omega⟩) (fun c3 => ?_) (fun c3 => ?_)
      · skip
        refine g_iconst hc dX13_part__36 ?_
        refine g_iret hc hm dX13_part__37 ?_
        exact x_end (by rw [if_neg (by omega)]) hfI3 hmI3.g hR
      · skip
        refine g_iload_n hc dX13_part__26 rfl ?_
        refine g_i2l hc dX13_part__27 (by first | exact hI _ _ | exact hxI2 _ _ | exact hIa _ _ | exact hIb _ _ | exact g_b32 | exact g_and32 | assumption | exact ⟨by omega, by omega⟩) ?_
        refine g_lconst hc dX13_part__28 0 (by decide +kernel) ?_
        refine g_lconst hc dX13_part__29 1 (by decide +kernel) ?_
        refine g_S3r hc (c_X13_isIn w (by first | exact hI _ _ | exact hmM.g _ _ | exact g_b32 | exact g_and32 | exact g_or32 | exact g_shl32 | assumption | exact ⟨by omega, by omega⟩) (by first | exact hI _ _ | exact hmM.g _ _ | exact g_b32 | exact g_and32 | exact g_or32 | exact g_shl32 | assumption | exact ⟨by omega, by omega⟩) (by first | exact hI _ _ | exact hmM.g _ _ | exact g_b32 | exact g_and32 | exact g_or32 | exact g_shl32 | assumption | exact ⟨by omega, by omega⟩)) my_X13_isIn ms_X13_isIn lm_X13_231 rfl (by decide) (Nat.le_of_ble_eq_true rfl) hm dX13_part__30 ?_
        refine g_ifb_ne (tgt := 38) hc dX13_part__33 (by decide)  (fun c4 => ?_) (fun c4 => ?_)
        · skip
          have hTs := q_ts hmM (by omega)
          have hqS := (q_lfS hmM (by omega)).2.1
          have hpr := q_prt hqS (s := s) (t := t) ⟨by omega, by omega⟩ ⟨by omega, by omega⟩ (by omega) (by omega)
          have hpr1 : 0 ≤ g_prt I lb s t ∧ g_prt I lb s t < I lb 1 := by
            obtain ⟨i, i0, i1, i2⟩ := q_on_iff.mp hpr.1.1
            have := ((hLs s (by omega) (by omega)).2.1 i i0 i1).1
            omega
          refine g_aldn hc dX13_part__38 rfl ?_
          refine g_iload_n hc dX13_part__39 rfl ?_
          refine g_iload_n hc dX13_part__40 rfl ?_
          refine g_V2 hc (c_X13_partOf w hR hmI3 (by omega) (by omega) (by omega)) my_X13_partOf mv_X13_partOf ca_703 rfl rfl lm_X13_340 rfl (by decide) (Nat.le_of_ble_eq_true rfl) hm dX13_part__41 (fun r4 n4 I4 J4 R4 hp4 => ?_)
          obtain ⟨rfl, rfl, hK4, hX4, rfl, t4, hR⟩ := hp4
          have hmI4 : q_rel I lb I4 := q_cg (fun k j hk => hK4 k j (fun z => hk (x_wa z))) hX4 hmI3
          have hfI4 : ∀ (k : Nat) (j : Int), ¬ x_a k j → I4 k j = M k j := fun k j hk => (hK4 k j (fun z => hk (x_wa z))).trans (hfI3 k j hk)
          refine g_istore_4 hc dX13_part__44 rfl ?_
          refine g_iload_n hc dX13_part__46 rfl ?_
          refine g_if_ne (tgt := 55) hc dX13_part__47 (by decide) (by first | exact hI _ _ | exact hxI2 _ _ | exact hIa _ _ | exact hIb _ _ | exact g_b32 | exact g_and32 | assumption | exact ⟨by omega, by omega⟩) (fun c5 => ?_) (fun c5 => ?_)
          · skip
            refine g_aldn hc dX13_part__55 rfl ?_
            refine g_getRk hc lk_X13_40 ca_703 (rc_703_19 hR) dX13_part__56 ?_
            refine g_aldn hc dX13_part__59 rfl ?_
            refine g_aldn hc dX13_part__60 rfl ?_
            refine g_getIe hc lk_X13_52 ca_703 24 rfl (show I4 703 24 = I 0 12 from hmI4.tab) dX13_part__61 ?_
            refine g_iload hc dX13_part__64 rfl ?_
            refine g_V2r hc (c_X13_forkAt w) my_X13_forkAt mv_X13_forkAt ca_703 rfl rfl lm_X13_249 rfl (by decide) (Nat.le_of_ble_eq_true rfl) hm dX13_part__66 ?_
            refine g_ialde hc ca_709 (by decide) (by omega) (by omega) (show I4 709 (((I 0 12) * 18 + (g_prt I lb (s) (t))) * 5) = I (lb + 41) (g_prt I lb (s) (t)) from q_yr hmI4 (by omega)) dX13_part__69 ?_
            refine g_iret hc hm dX13_part__70 ?_
            exact x_end (by rw [if_pos (by omega), if_neg (by omega)]) hfI4 hmI4.g hR
          · skip
            refine g_iload hc dX13_part__50 rfl ?_
            refine g_goto (tgt := 70) hc dX13_part__52 (by decide) ?_
            refine g_iret hc hm dX13_part__70 ?_
            exact x_end (by rw [if_pos (by omega), if_pos (by omega)]) hfI4 hmI4.g hR
        · skip
          refine g_iconst hc dX13_part__36 ?_
          refine g_iret hc hm dX13_part__37 ?_
          exact x_end (by rw [if_neg (by omega)]) hfI3 hmI3.g hR
set_option maxHeartbeats 4000000 in
set_option maxRecDepth 100000 in
/-- X13_regret -/
theorem c_X13_regret (w : g_W) {I : g_I} {J : g_J} {R : g_R} {lb tx : Nat} (hR : g_rf w R lb tx) {M : g_I} (hmM : q_rel I lb M) {s f : Int} (g1 : g32 s) (g2 : g32 f) : g_Met w g_n M J R yX13_regret cX13_regret 3 (some .int) 57 0 0 [(gvr w 703), (gvI s), (gvI f)] (x_rel w (some (gvI (if ((0 ≤ s ∧ s < I lb 0) ∧ (0 ≤ f ∧ f < I lb 1)) ∧ ¬ g_stp I lb s f = -1 then q_rg I lb f (q_bo I lb s f) else -1))) x_a M J lb) := by
  refine g_intro (own := RX13) [some (gvr w 703), some (gvI s), some (gvI f)] (by decide +kernel) rfl (by decide) (Nat.le_of_ble_eq_true rfl) rfl (fun i v hv => g_args 0 i v hv rfl) (fun x hc hm => ?_)
  have hfM : ∀ (k : Nat) (j : Int), ¬ x_a k j → M k j = M k j := fun _ _ _ => rfl
  have hI := hmM.gi
  have hTb := q_b1 hmM
  have hLv := hmM.lv
  have hC := hmM.cin
  have hL := hC.1
  obtain ⟨hn0, hn1, hLs, hLf⟩ := id hL
  obtain ⟨-, hC1, hC2, hC3, hC4, hC5, hC6, hC7⟩ := id hC
  have hN0 := q_n0 hmM
  refine g_aldn hc dX13_regret_0 rfl ?_
  refine g_iconst hc dX13_regret_1 ?_
  refine g_putI' hc lk_X13_102 ca_703 0 rfl dX13_regret_2 (fun I3 hI3 => ?_)
  have hmI3 : q_rel I lb I3 := by rw [hI3]; exact q_up hmM (by unfold x_a; omega) (by first | exact hI _ _ | exact hmM.g _ _ | exact g_b32 | exact g_and32 | exact g_or32 | exact g_shl32 | assumption | exact ⟨by omega, by omega⟩)
  have hfI3 : ∀ (k : Nat) (j : Int), ¬ x_a k j → I3 k j = M k j := fun k j hk => by rw [hI3]; exact (g_up_n (by unfold x_a at hk; omega)).trans (hfM k j hk)
  refine g_aldn hc dX13_regret_5 rfl ?_
  refine g_iload_n hc dX13_regret_6 rfl ?_
  refine g_V1r hc (c_X13_isSelf w hR hmI3 (by first | exact hI _ _ | exact hmM.g _ _ | exact g_b32 | exact g_and32 | exact g_or32 | exact g_shl32 | assumption | exact ⟨by omega, by omega⟩)) my_X13_isSelf mv_X13_isSelf ca_703 rfl rfl lm_X13_313 rfl (by decide) (Nat.le_of_ble_eq_true rfl) hm dX13_regret_7 ?_
  refine g_ifb_eq (tgt := 31) hc dX13_regret_10 (by decide)  (fun c1 => ?_) (fun c1 => ?_)
  · skip
    refine g_iconst hc dX13_regret_31 ?_
    refine g_iret hc hm dX13_regret_32 ?_
    exact x_end (by rw [if_neg (by omega)]) hfI3 hmI3.g hR
  · skip
    have h1 := c1
    have hTs := q_ts hmM (by omega)
    obtain ⟨hst, hway, -⟩ := hLs s h1.1 h1.2
    refine g_aldn hc dX13_regret_13 rfl ?_
    refine g_iload_n hc dX13_regret_14 rfl ?_
    refine g_V1r hc (c_X13_isFork w hR hmI3 (by first | exact hI _ _ | exact hmM.g _ _ | exact g_b32 | exact g_and32 | exact g_or32 | exact g_shl32 | assumption | exact ⟨by omega, by omega⟩)) my_X13_isFork mv_X13_isFork ca_703 rfl rfl lm_X13_304 rfl (by decide) (Nat.le_of_ble_eq_true rfl) hm dX13_regret_15 ?_
    refine g_ifb_eq (tgt := 31) hc dX13_regret_18 (by decide)  (fun c2 => ?_) (fun c2 => ?_)
    · skip
      refine g_iconst hc dX13_regret_31 ?_
      refine g_iret hc hm dX13_regret_32 ?_
      exact x_end (by rw [if_neg (by omega)]) hfI3 hmI3.g hR
    · skip
      refine g_aldn hc dX13_regret_21 rfl ?_
      refine g_iload_n hc dX13_regret_22 rfl ?_
      refine g_iload_n hc dX13_regret_23 rfl ?_
      refine g_V2 hc (c_X13_branchOn w hR hmI3 (by omega) (by first | exact hI _ _ | exact hmM.g _ _ | exact g_b32 | exact g_and32 | exact g_or32 | exact g_shl32 | assumption | exact ⟨by omega, by omega⟩)) my_X13_branchOn mv_X13_branchOn ca_703 rfl rfl lm_X13_387 rfl (by decide) (Nat.le_of_ble_eq_true rfl) hm dX13_regret_24 (fun r4 n4 I4 J4 R4 hp4 => ?_)
      obtain ⟨rfl, rfl, hK4, hX4, rfl, t4, hR⟩ := hp4
      have hmI4 : q_rel I lb I4 := q_cg (fun k j hk => hK4 k j (fun z => hk (x_wa z))) hX4 hmI3
      have hfI4 : ∀ (k : Nat) (j : Int), ¬ x_a k j → I4 k j = M k j := fun k j hk => (hK4 k j (fun z => hk (x_wa z))).trans (hfI3 k j hk)
      refine g_iconst hc dX13_regret_27 ?_
      refine g_icmp_ne (tgt := 33) hc dX13_regret_28 (by decide) (by unfold q_bo; split <;> first | exact hI _ _ | exact ⟨by decide, by decide⟩) (by exact ⟨by decide, by decide⟩) (fun c3 => ?_) (fun c3 => ?_)
      · skip
        have hne : ¬ g_stp I lb s f = -1 := fun z => c3 (by unfold q_bo; rw [if_pos z])
        have hbo : q_bo I lb s f = I (lb + 29 + s.toNat) (g_stp I lb s f) := by unfold q_bo; rw [if_neg hne]
        have hws : (0 ≤ f ∧ f < I lb 1) ∧ 0 ≤ q_bo I lb s f ∧ q_bo I lb s f < I (lb + 43) f := by
          rcases @q_stp I lb s f with ⟨z, -⟩ | ⟨z1, z2, z3⟩
          · exact absurd z hne
          · have := hway _ z1 z2
            rw [z3] at this
            rw [hbo]
            omega
        refine g_aldn hc dX13_regret_33 rfl ?_
        refine g_iload_n hc dX13_regret_34 rfl ?_
        refine g_aldn hc dX13_regret_35 rfl ?_
        refine g_iload_n hc dX13_regret_36 rfl ?_
        refine g_iload_n hc dX13_regret_37 rfl ?_
        refine g_V2 hc (c_X13_branchOn w hR hmI4 (by omega) (by first | exact hI _ _ | exact hmM.g _ _ | exact g_b32 | exact g_and32 | exact g_or32 | exact g_shl32 | assumption | exact ⟨by omega, by omega⟩)) my_X13_branchOn mv_X13_branchOn ca_703 rfl rfl lm_X13_387 rfl (by decide) (Nat.le_of_ble_eq_true rfl) hm dX13_regret_38 (fun r5 n5 I5 J5 R5 hp5 => ?_)
        obtain ⟨rfl, rfl, hK5, hX5, rfl, t5, hR⟩ := hp5
        have hmI5 : q_rel I lb I5 := q_cg (fun k j hk => hK5 k j (fun z => hk (x_wa z))) hX5 hmI4
        have hfI5 : ∀ (k : Nat) (j : Int), ¬ x_a k j → I5 k j = M k j := fun k j hk => (hK5 k j (fun z => hk (x_wa z))).trans (hfI4 k j hk)
        refine g_V2 hc (c_X13_regretOf w hR hmI5 (by omega) (by omega)) my_X13_regretOf mv_X13_regretOf ca_703 rfl rfl lm_X13_390 rfl (by decide) (Nat.le_of_ble_eq_true rfl) hm dX13_regret_41 (fun r6 n6 I6 J6 R6 hp6 => ?_)
        obtain ⟨rfl, rfl, hK6, hX6, rfl, t6, hR⟩ := hp6
        have hmI6 : q_rel I lb I6 := q_cg hK6 hX6 hmI5
        have hfI6 : ∀ (k : Nat) (j : Int), ¬ x_a k j → I6 k j = M k j := fun k j hk => (hK6 k j hk).trans (hfI5 k j hk)
        refine g_l2i hc dX13_regret_44 ?_
        refine g_iret hc hm dX13_regret_45 ?_
        exact x_end (by rw [if_pos (by omega)]) hfI6 hmI6.g hR
      · skip
        have hneg : g_stp I lb s f = -1 := by
          rcases @q_stp I lb s f with ⟨z, -⟩ | ⟨z1, z2, z3⟩
          · exact z
          · have hc9 : q_bo I lb s f = -1 := c3
            unfold q_bo at hc9
            rw [if_neg (by omega)] at hc9
            have := hway _ z1 z2
            omega
        refine g_iconst hc dX13_regret_31 ?_
        refine g_iret hc hm dX13_regret_32 ?_
        exact x_end (by rw [if_neg (by omega)]) hfI4 hmI4.g hR
set_option maxHeartbeats 4000000 in
set_option maxRecDepth 100000 in
/-- X13_demand -/
theorem c_X13_demand (w : g_W) {I : g_I} {J : g_J} {R : g_R} {lb tx : Nat} (hR : g_rf w R lb tx) {M : g_I} (hmM : q_rel I lb M) {s : Int} (g1 : g32 s) : g_Met w g_n M J R yX13_demand cX13_demand 2 (some .int) 4 0 0 [(gvr w 703), (gvI s)] (x_rel w (some (gvI (if (0 ≤ s ∧ s < I lb 0) ∧ g_thr I lb s = true then q_dm I lb s else -1))) x_a M J lb) := by
  refine g_intro (own := RX13) [some (gvr w 703), some (gvI s)] (by decide +kernel) rfl (by decide) (Nat.le_of_ble_eq_true rfl) rfl (fun i v hv => g_args 0 i v hv rfl) (fun x hc hm => ?_)
  have hfM : ∀ (k : Nat) (j : Int), ¬ x_a k j → M k j = M k j := fun _ _ _ => rfl
  have hI := hmM.gi
  have hTb := q_b1 hmM
  have hLv := hmM.lv
  have hC := hmM.cin
  have hL := hC.1
  obtain ⟨hn0, hn1, hLs, hLf⟩ := id hL
  obtain ⟨-, hC1, hC2, hC3, hC4, hC5, hC6, hC7⟩ := id hC
  have hN0 := q_n0 hmM
  refine g_aldn hc dX13_demand_0 rfl ?_
  refine g_iconst hc dX13_demand_1 ?_
  refine g_putI' hc lk_X13_102 ca_703 0 rfl dX13_demand_2 (fun I3 hI3 => ?_)
  have hmI3 : q_rel I lb I3 := by rw [hI3]; exact q_up hmM (by unfold x_a; omega) (by first | exact hI _ _ | exact hmM.g _ _ | exact g_b32 | exact g_and32 | exact g_or32 | exact g_shl32 | assumption | exact ⟨by omega, by omega⟩)
  have hfI3 : ∀ (k : Nat) (j : Int), ¬ x_a k j → I3 k j = M k j := fun k j hk => by rw [hI3]; exact (g_up_n (by unfold x_a at hk; omega)).trans (hfM k j hk)
  refine g_aldn hc dX13_demand_5 rfl ?_
  refine g_iload_n hc dX13_demand_6 rfl ?_
  refine g_V1r hc (c_X13_isSelf w hR hmI3 (by first | exact hI _ _ | exact hmM.g _ _ | exact g_b32 | exact g_and32 | exact g_or32 | exact g_shl32 | assumption | exact ⟨by omega, by omega⟩)) my_X13_isSelf mv_X13_isSelf ca_703 rfl rfl lm_X13_313 rfl (by decide) (Nat.le_of_ble_eq_true rfl) hm dX13_demand_7 ?_
  refine g_ifb_eq (tgt := 29) hc dX13_demand_10 (by decide)  (fun c1 => ?_) (fun c1 => ?_)
  · skip
    have hng : ¬ ((0 ≤ s ∧ s < I lb 0) ∧ g_thr I lb s = true) := fun z => by omega
    refine g_iconst hc dX13_demand_29 ?_
    refine g_iret hc hm dX13_demand_30 ?_
    exact x_end (by rw [if_neg hng]) hfI3 hmI3.g hR
  · skip
    refine g_aldn hc dX13_demand_13 rfl ?_
    refine g_iload_n hc dX13_demand_14 rfl ?_
    refine g_V1 hc (c_X13_isThere w hR hmI3 (by omega)) my_X13_isThere mv_X13_isThere ca_703 rfl rfl lm_X13_324 rfl (by decide) (Nat.le_of_ble_eq_true rfl) hm dX13_demand_15 (fun r4 n4 I4 J4 R4 hp4 => ?_)
    obtain ⟨rfl, rfl, hK4, hX4, rfl, t4, hR⟩ := hp4
    have hmI4 : q_rel I lb I4 := q_cg (fun k j hk => hK4 k j (fun z => hk (x_wa z))) hX4 hmI3
    have hfI4 : ∀ (k : Nat) (j : Int), ¬ x_a k j → I4 k j = M k j := fun k j hk => (hK4 k j (fun z => hk (x_wa z))).trans (hfI3 k j hk)
    refine g_ifb_eq (tgt := 29) hc dX13_demand_18 (by decide)  (fun c2 => ?_) (fun c2 => ?_)
    · skip
      have hng : ¬ ((0 ≤ s ∧ s < I lb 0) ∧ g_thr I lb s = true) := fun z => c2 z.2
      refine g_iconst hc dX13_demand_29 ?_
      refine g_iret hc hm dX13_demand_30 ?_
      exact x_end (by rw [if_neg hng]) hfI4 hmI4.g hR
    · skip
      have hpg : (0 ≤ s ∧ s < I lb 0) ∧ g_thr I lb s = true := ⟨by omega, c2⟩
      refine g_aldn hc dX13_demand_21 rfl ?_
      refine g_iload_n hc dX13_demand_22 rfl ?_
      refine g_V1 hc (c_X13_demandOf w hR hmI4 (by omega)) my_X13_demandOf mv_X13_demandOf ca_703 rfl rfl lm_X13_404 rfl (by decide) (Nat.le_of_ble_eq_true rfl) hm dX13_demand_23 (fun r5 n5 I5 J5 R5 hp5 => ?_)
      obtain ⟨rfl, rfl, hK5, hX5, rfl, t5, hR⟩ := hp5
      have hmI5 : q_rel I lb I5 := q_cg (fun k j hk => hK5 k j (fun z => hk (x_wa z))) hX5 hmI4
      have hfI5 : ∀ (k : Nat) (j : Int), ¬ x_a k j → I5 k j = M k j := fun k j hk => (hK5 k j (fun z => hk (x_wa z))).trans (hfI4 k j hk)
      refine g_goto (tgt := 30) hc dX13_demand_26 (by decide) ?_
      refine g_iret hc hm dX13_demand_30 ?_
      exact x_end (by rw [if_pos hpg]) hfI5 hmI5.g hR
set_option maxHeartbeats 4000000 in
set_option maxRecDepth 100000 in
/-- X13_terms -/
theorem c_X13_terms (w : g_W) {I : g_I} {J : g_J} {R : g_R} {lb tx : Nat} (hR : g_rf w R lb tx) {M : g_I} (hmM : q_rel I lb M) {s : Int} (g1 : g32 s) : g_Met w g_n M J R yX13_terms cX13_terms 2 (some .int) 5 0 0 [(gvr w 703), (gvI s)] (x_rel w (some (gvI (if 0 ≤ I 0 12 ∧ 0 ≤ s ∧ s ≤ 9999 then s - g_dms I lb else -2000000000))) x_a M J lb) := by
  refine g_intro (own := RX13) [some (gvr w 703), some (gvI s)] (by decide +kernel) rfl (by decide) (Nat.le_of_ble_eq_true rfl) rfl (fun i v hv => g_args 0 i v hv rfl) (fun x hc hm => ?_)
  have hfM : ∀ (k : Nat) (j : Int), ¬ x_a k j → M k j = M k j := fun _ _ _ => rfl
  have hI := hmM.gi
  have hTb := q_b1 hmM
  have hLv := hmM.lv
  have hC := hmM.cin
  have hL := hC.1
  obtain ⟨hn0, hn1, hLs, hLf⟩ := id hL
  obtain ⟨-, hC1, hC2, hC3, hC4, hC5, hC6, hC7⟩ := id hC
  have hN0 := q_n0 hmM
  refine g_aldn hc dX13_terms_0 rfl ?_
  refine g_iconst hc dX13_terms_1 ?_
  refine g_putI' hc lk_X13_102 ca_703 0 rfl dX13_terms_2 (fun I3 hI3 => ?_)
  have hmI3 : q_rel I lb I3 := by rw [hI3]; exact q_up hmM (by unfold x_a; omega) (by first | exact hI _ _ | exact hmM.g _ _ | exact g_b32 | exact g_and32 | exact g_or32 | exact g_shl32 | assumption | exact ⟨by omega, by omega⟩)
  have hfI3 : ∀ (k : Nat) (j : Int), ¬ x_a k j → I3 k j = M k j := fun k j hk => by rw [hI3]; exact (g_up_n (by unfold x_a at hk; omega)).trans (hfM k j hk)
  refine g_aldn hc dX13_terms_5 rfl ?_
  refine g_getIe hc lk_X13_52 ca_703 24 rfl (show I3 703 24 = I 0 12 from hmI3.tab) dX13_terms_6 ?_
  refine g_iconst hc dX13_terms_9 ?_
  refine g_icmp_eq (tgt := 35) hc dX13_terms_10 (by decide) (by first | exact hI _ _ | exact hxI2 _ _ | exact hIa _ _ | exact hIb _ _ | exact g_b32 | exact g_and32 | assumption | exact ⟨by omega, by omega⟩) (by first | exact hI _ _ | exact hxI2 _ _ | exact hIa _ _ | exact hIb _ _ | exact g_b32 | exact g_and32 | assumption | exact ⟨by omega, by omega⟩) (fun c1 => ?_) (fun c1 => ?_)
  · skip
    refine g_ldcw (k := (-2000000000)) hc dX13_terms_35 _ lc_X13_376 (by decide +kernel) ?_
    refine g_iret hc hm dX13_terms_38 ?_
    exact x_end (by rw [if_neg (by omega)]) hfI3 hmI3.g hR
  · skip
    refine g_iload_n hc dX13_terms_13 rfl ?_
    refine g_i2l hc dX13_terms_14 (by first | exact hI _ _ | exact hxI2 _ _ | exact hIa _ _ | exact hIb _ _ | exact g_b32 | exact g_and32 | assumption | exact ⟨by omega, by omega⟩) ?_
    refine g_lconst hc dX13_terms_15 0 (by decide +kernel) ?_
    refine g_ldc2 (k := 9999) hc dX13_terms_16 _ lc_X13_399 (by decide +kernel) ?_
    refine g_S3r hc (c_X13_isIn w (by first | exact hI _ _ | exact hmM.g _ _ | exact g_b32 | exact g_and32 | exact g_or32 | exact g_shl32 | assumption | exact ⟨by omega, by omega⟩) (by first | exact hI _ _ | exact hmM.g _ _ | exact g_b32 | exact g_and32 | exact g_or32 | exact g_shl32 | assumption | exact ⟨by omega, by omega⟩) (by first | exact hI _ _ | exact hmM.g _ _ | exact g_b32 | exact g_and32 | exact g_or32 | exact g_shl32 | assumption | exact ⟨by omega, by omega⟩)) my_X13_isIn ms_X13_isIn lm_X13_231 rfl (by decide) (Nat.le_of_ble_eq_true rfl) hm dX13_terms_19 ?_
    refine g_ifb_eq (tgt := 35) hc dX13_terms_22 (by decide)  (fun c2 => ?_) (fun c2 => ?_)
    · skip
      refine g_ldcw (k := (-2000000000)) hc dX13_terms_35 _ lc_X13_376 (by decide +kernel) ?_
      refine g_iret hc hm dX13_terms_38 ?_
      exact x_end (by rw [if_neg (by omega)]) hfI3 hmI3.g hR
    · skip
      refine g_iload_n hc dX13_terms_25 rfl ?_
      refine g_aldn hc dX13_terms_26 rfl ?_
      refine g_iconst hc dX13_terms_27 ?_
      refine g_V1 hc (c_X13_demands w hR hmI3 (by omega) (by omega)) my_X13_demands mv_X13_demands ca_703 rfl rfl lm_X13_407 rfl (by decide) (Nat.le_of_ble_eq_true rfl) hm dX13_terms_28 (fun r4 n4 I4 J4 R4 hp4 => ?_)
      obtain ⟨rfl, rfl, hK4, hX4, rfl, t4, hR⟩ := hp4
      have hmI4 : q_rel I lb I4 := q_cg hK4 hX4 hmI3
      have hfI4 : ∀ (k : Nat) (j : Int), ¬ x_a k j → I4 k j = M k j := fun k j hk => (hK4 k j hk).trans (hfI3 k j hk)
      refine g_isub hc dX13_terms_31 ?_
      refine g_goto (tgt := 38) hc dX13_terms_32 (by decide) ?_
      refine g_iret hc hm dX13_terms_38 ?_
      exact x_end (by rw [if_pos (by omega)]) hfI4 hmI4.g hR
set_option maxHeartbeats 4000000 in
set_option maxRecDepth 100000 in
/-- X13_duel -/
theorem c_X13_duel (w : g_W) {I : g_I} {J : g_J} {R : g_R} {lb tx : Nat} (hR : g_rf w R lb tx) {M : g_I} (hmM : q_rel I lb M) {s i : Int} (g1 : g32 s) (g2 : g32 i) : g_Met w g_n M J R yX13_duel cX13_duel 3 (some .int) 36 0 0 [(gvr w 703), (gvI s), (gvI i)] (x_rel w (some (gvI (if 0 ≤ I 0 12 ∧ (0 ≤ s ∧ s < I 0 11) ∧ 0 ≤ i ∧ i < I 0 11 then g_ahd I lb s i else -2000000000))) x_a M J lb) := by
  refine g_intro (own := RX13) [some (gvr w 703), some (gvI s), some (gvI i)] (by decide +kernel) rfl (by decide) (Nat.le_of_ble_eq_true rfl) rfl (fun i v hv => g_args 0 i v hv rfl) (fun x hc hm => ?_)
  have hfM : ∀ (k : Nat) (j : Int), ¬ x_a k j → M k j = M k j := fun _ _ _ => rfl
  have hI := hmM.gi
  have hTb := q_b1 hmM
  have hLv := hmM.lv
  have hC := hmM.cin
  have hL := hC.1
  obtain ⟨hn0, hn1, hLs, hLf⟩ := id hL
  obtain ⟨-, hC1, hC2, hC3, hC4, hC5, hC6, hC7⟩ := id hC
  have hN0 := q_n0 hmM
  refine g_aldn hc dX13_duel_0 rfl ?_
  refine g_iconst hc dX13_duel_1 ?_
  refine g_putI' hc lk_X13_102 ca_703 0 rfl dX13_duel_2 (fun I3 hI3 => ?_)
  have hmI3 : q_rel I lb I3 := by rw [hI3]; exact q_up hmM (by unfold x_a; omega) (by first | exact hI _ _ | exact hmM.g _ _ | exact g_b32 | exact g_and32 | exact g_or32 | exact g_shl32 | assumption | exact ⟨by omega, by omega⟩)
  have hfI3 : ∀ (k : Nat) (j : Int), ¬ x_a k j → I3 k j = M k j := fun k j hk => by rw [hI3]; exact (g_up_n (by unfold x_a at hk; omega)).trans (hfM k j hk)
  refine g_aldn hc dX13_duel_5 rfl ?_
  refine g_getIe hc lk_X13_52 ca_703 24 rfl (show I3 703 24 = I 0 12 from hmI3.tab) dX13_duel_6 ?_
  refine g_iconst hc dX13_duel_9 ?_
  refine g_icmp_eq (tgt := 38) hc dX13_duel_10 (by decide) (by first | exact hI _ _ | exact hxI2 _ _ | exact hIa _ _ | exact hIb _ _ | exact g_b32 | exact g_and32 | assumption | exact ⟨by omega, by omega⟩) (by first | exact hI _ _ | exact hxI2 _ _ | exact hIa _ _ | exact hIb _ _ | exact g_b32 | exact g_and32 | assumption | exact ⟨by omega, by omega⟩) (fun c1 => ?_) (fun c1 => ?_)
  · skip
    refine g_ldcw (k := (-2000000000)) hc dX13_duel_38 _ lc_X13_376 (by decide +kernel) ?_
    refine g_iret hc hm dX13_duel_41 ?_
    exact x_end (by rw [if_neg (by omega)]) hfI3 hmI3.g hR
  · skip
    refine g_aldn hc dX13_duel_13 rfl ?_
    refine g_iload_n hc dX13_duel_14 rfl ?_
    refine g_V1r hc (c_X13_isTaste w hR hmI3 (by first | exact hI _ _ | exact hmM.g _ _ | exact g_b32 | exact g_and32 | exact g_or32 | exact g_shl32 | assumption | exact ⟨by omega, by omega⟩)) my_X13_isTaste mv_X13_isTaste ca_703 rfl rfl lm_X13_427 rfl (by decide) (Nat.le_of_ble_eq_true rfl) hm dX13_duel_15 ?_
    refine g_ifb_eq (tgt := 38) hc dX13_duel_18 (by decide)  (fun c2 => ?_) (fun c2 => ?_)
    · skip
      refine g_ldcw (k := (-2000000000)) hc dX13_duel_38 _ lc_X13_376 (by decide +kernel) ?_
      refine g_iret hc hm dX13_duel_41 ?_
      exact x_end (by rw [if_neg (by omega)]) hfI3 hmI3.g hR
    · skip
      refine g_aldn hc dX13_duel_21 rfl ?_
      refine g_iload_n hc dX13_duel_22 rfl ?_
      refine g_V1r hc (c_X13_isTaste w hR hmI3 (by first | exact hI _ _ | exact hmM.g _ _ | exact g_b32 | exact g_and32 | exact g_or32 | exact g_shl32 | assumption | exact ⟨by omega, by omega⟩)) my_X13_isTaste mv_X13_isTaste ca_703 rfl rfl lm_X13_427 rfl (by decide) (Nat.le_of_ble_eq_true rfl) hm dX13_duel_23 ?_
      refine g_ifb_eq (tgt := 38) hc dX13_duel_26 (by decide)  (fun c3 => ?_) (fun c3 => ?_)
      · skip
        refine g_ldcw (k := (-2000000000)) hc dX13_duel_38 _ lc_X13_376 (by decide +kernel) ?_
        refine g_iret hc hm dX13_duel_41 ?_
        exact x_end (by rw [if_neg (by omega)]) hfI3 hmI3.g hR
      · skip
        refine g_aldn hc dX13_duel_29 rfl ?_
        refine g_iload_n hc dX13_duel_30 rfl ?_
        refine g_iload_n hc dX13_duel_31 rfl ?_
        refine g_V2 hc (c_X13_duelOf w hR hmI3 (by omega) (by omega) (by omega)) my_X13_duelOf mv_X13_duelOf ca_703 rfl rfl lm_X13_430 rfl (by decide) (Nat.le_of_ble_eq_true rfl) hm dX13_duel_32 (fun r4 n4 I4 J4 R4 hp4 => ?_)
        obtain ⟨rfl, rfl, hK4, hX4, rfl, t4, hR⟩ := hp4
        have hmI4 : q_rel I lb I4 := q_cg hK4 hX4 hmI3
        have hfI4 : ∀ (k : Nat) (j : Int), ¬ x_a k j → I4 k j = M k j := fun k j hk => (hK4 k j hk).trans (hfI3 k j hk)
        refine g_goto (tgt := 41) hc dX13_duel_35 (by decide) ?_
        refine g_iret hc hm dX13_duel_41 ?_
        exact x_end (by rw [if_pos (by omega)]) hfI4 hmI4.g hR
set_option maxHeartbeats 4000000 in
set_option maxRecDepth 100000 in
/-- X13_cross -/
theorem c_X13_cross (w : g_W) {I : g_I} {J : g_J} {R : g_R} {lb tx : Nat} (hR : g_rf w R lb tx) {M : g_I} (hmM : q_rel I lb M) {s i : Int} (g1 : g32 s) (g2 : g32 i) : g_Met w g_n M J R yX13_cross cX13_cross 3 (some .int) 4 0 0 [(gvr w 703), (gvI s), (gvI i)] (x_rel w (some (gvI (if ((0 ≤ s ∧ s.tdiv 100 < I 0 10 ∧ s.tmod 100 < I (4 + 128 * (s.tdiv 100).toNat) 0) ∧ 0 ≤ i ∧ i.tdiv 100 < I 0 10 ∧ i.tmod 100 < I (4 + 128 * (i.tdiv 100).toNat) 0) ∧ ¬ s.tdiv 100 = i.tdiv 100 then g_crs I (4 + 128 * (s.tdiv 100).toNat) (4 + 128 * (i.tdiv 100).toNat) (s.tmod 100) (i.tmod 100) else -1))) x_a M J lb) := by
  refine g_intro (own := RX13) [some (gvr w 703), some (gvI s), some (gvI i)] (by decide +kernel) rfl (by decide) (Nat.le_of_ble_eq_true rfl) rfl (fun i v hv => g_args 0 i v hv rfl) (fun x hc hm => ?_)
  have hfM : ∀ (k : Nat) (j : Int), ¬ x_a k j → M k j = M k j := fun _ _ _ => rfl
  have hI := hmM.gi
  have hTb := q_b1 hmM
  have hLv := hmM.lv
  have hC := hmM.cin
  have hL := hC.1
  obtain ⟨hn0, hn1, hLs, hLf⟩ := id hL
  obtain ⟨-, hC1, hC2, hC3, hC4, hC5, hC6, hC7⟩ := id hC
  have hN0 := q_n0 hmM
  refine g_aldn hc dX13_cross_0 rfl ?_
  refine g_iconst hc dX13_cross_1 ?_
  refine g_putI' hc lk_X13_102 ca_703 0 rfl dX13_cross_2 (fun I3 hI3 => ?_)
  have hmI3 : q_rel I lb I3 := by rw [hI3]; exact q_up hmM (by unfold x_a; omega) (by first | exact hI _ _ | exact hmM.g _ _ | exact g_b32 | exact g_and32 | exact g_or32 | exact g_shl32 | assumption | exact ⟨by omega, by omega⟩)
  have hfI3 : ∀ (k : Nat) (j : Int), ¬ x_a k j → I3 k j = M k j := fun k j hk => by rw [hI3]; exact (g_up_n (by unfold x_a at hk; omega)).trans (hfM k j hk)
  refine g_aldn hc dX13_cross_5 rfl ?_
  refine g_iload_n hc dX13_cross_6 rfl ?_
  refine g_V1r hc (c_X13_isCode w hR hmI3 (by first | exact hI _ _ | exact hmM.g _ _ | exact g_b32 | exact g_and32 | exact g_or32 | exact g_shl32 | assumption | exact ⟨by omega, by omega⟩)) my_X13_isCode mv_X13_isCode ca_703 rfl rfl lm_X13_447 rfl (by decide) (Nat.le_of_ble_eq_true rfl) hm dX13_cross_7 ?_
  refine g_ifb_eq (tgt := 55) hc dX13_cross_10 (by decide)  (fun c1 => ?_) (fun c1 => ?_)
  · skip
    refine g_iconst hc dX13_cross_55 ?_
    refine g_iret hc hm dX13_cross_56 ?_
    exact x_end (by rw [if_neg (by omega)]) hfI3 hmI3.g hR
  · skip
    have hu : (0 ≤ s.tdiv 100 ∧ s.tdiv 100 ≤ s) ∧ 0 ≤ s.tmod 100 ∧ s.tmod 100 < 100 := by
      rw [Int.tdiv_eq_ediv_of_nonneg (by omega), Int.tmod_eq_emod_of_nonneg (by omega)]
      omega
    refine g_aldn hc dX13_cross_13 rfl ?_
    refine g_iload_n hc dX13_cross_14 rfl ?_
    refine g_V1r hc (c_X13_isCode w hR hmI3 (by first | exact hI _ _ | exact hmM.g _ _ | exact g_b32 | exact g_and32 | exact g_or32 | exact g_shl32 | assumption | exact ⟨by omega, by omega⟩)) my_X13_isCode mv_X13_isCode ca_703 rfl rfl lm_X13_447 rfl (by decide) (Nat.le_of_ble_eq_true rfl) hm dX13_cross_15 ?_
    refine g_ifb_eq (tgt := 55) hc dX13_cross_18 (by decide)  (fun c2 => ?_) (fun c2 => ?_)
    · skip
      refine g_iconst hc dX13_cross_55 ?_
      refine g_iret hc hm dX13_cross_56 ?_
      exact x_end (by rw [if_neg (by omega)]) hfI3 hmI3.g hR
    · skip
      have hv : (0 ≤ i.tdiv 100 ∧ i.tdiv 100 ≤ i) ∧ 0 ≤ i.tmod 100 ∧ i.tmod 100 < 100 := by
        rw [Int.tdiv_eq_ediv_of_nonneg (by omega), Int.tmod_eq_emod_of_nonneg (by omega)]
        omega
      refine g_iload_n hc dX13_cross_21 rfl ?_
      refine g_bipush hc dX13_cross_22 (by decide +kernel) ?_
      refine g_idiv hc dX13_cross_24 (by first | exact hI _ _ | exact hxI2 _ _ | exact hIa _ _ | exact hIb _ _ | exact g_b32 | exact g_and32 | assumption | exact ⟨by omega, by omega⟩) (by first | exact hI _ _ | exact hxI2 _ _ | exact hIa _ _ | exact hIb _ _ | exact g_b32 | exact g_and32 | assumption | exact ⟨by omega, by omega⟩) (by omega) ?_
      refine g_iload_n hc dX13_cross_25 rfl ?_
      refine g_bipush hc dX13_cross_26 (by decide +kernel) ?_
      refine g_idiv hc dX13_cross_28 (by first | exact hI _ _ | exact hxI2 _ _ | exact hIa _ _ | exact hIb _ _ | exact g_b32 | exact g_and32 | assumption | exact ⟨by omega, by omega⟩) (by first | exact hI _ _ | exact hxI2 _ _ | exact hIa _ _ | exact hIb _ _ | exact g_b32 | exact g_and32 | assumption | exact ⟨by omega, by omega⟩) (by omega) ?_
      refine g_icmp_eq (tgt := 55) hc dX13_cross_29 (by decide) (by first | exact hI _ _ | exact hxI2 _ _ | exact hIa _ _ | exact hIb _ _ | exact g_b32 | exact g_and32 | assumption | exact ⟨by omega, by omega⟩) (by first | exact hI _ _ | exact hxI2 _ _ | exact hIa _ _ | exact hIb _ _ | exact g_b32 | exact g_and32 | assumption | exact ⟨by omega, by omega⟩) (fun c3 => ?_) (fun c3 => ?_)
      · skip
        refine g_iconst hc dX13_cross_55 ?_
        refine g_iret hc hm dX13_cross_56 ?_
        exact x_end (by rw [if_neg (by omega)]) hfI3 hmI3.g hR
      · skip
        refine g_aldn hc dX13_cross_32 rfl ?_
        refine g_iload_n hc dX13_cross_33 rfl ?_
        refine g_bipush hc dX13_cross_34 (by decide +kernel) ?_
        refine g_idiv hc dX13_cross_36 (by first | exact hI _ _ | exact hxI2 _ _ | exact hIa _ _ | exact hIb _ _ | exact g_b32 | exact g_and32 | assumption | exact ⟨by omega, by omega⟩) (by first | exact hI _ _ | exact hxI2 _ _ | exact hIa _ _ | exact hIb _ _ | exact g_b32 | exact g_and32 | assumption | exact ⟨by omega, by omega⟩) (by omega) ?_
        refine g_iload_n hc dX13_cross_37 rfl ?_
        refine g_bipush hc dX13_cross_38 (by decide +kernel) ?_
        refine g_irem hc dX13_cross_40 (by first | exact hI _ _ | exact hxI2 _ _ | exact hIa _ _ | exact hIb _ _ | exact g_b32 | exact g_and32 | assumption | exact ⟨by omega, by omega⟩) (by first | exact hI _ _ | exact hxI2 _ _ | exact hIa _ _ | exact hIb _ _ | exact g_b32 | exact g_and32 | assumption | exact ⟨by omega, by omega⟩) (by omega) ?_
        refine g_iload_n hc dX13_cross_41 rfl ?_
        refine g_bipush hc dX13_cross_42 (by decide +kernel) ?_
        refine g_idiv hc dX13_cross_44 (by first | exact hI _ _ | exact hxI2 _ _ | exact hIa _ _ | exact hIb _ _ | exact g_b32 | exact g_and32 | assumption | exact ⟨by omega, by omega⟩) (by first | exact hI _ _ | exact hxI2 _ _ | exact hIa _ _ | exact hIb _ _ | exact g_b32 | exact g_and32 | assumption | exact ⟨by omega, by omega⟩) (by omega) ?_
        refine g_iload_n hc dX13_cross_45 rfl ?_
        refine g_bipush hc dX13_cross_46 (by decide +kernel) ?_
        refine g_irem hc dX13_cross_48 (by first | exact hI _ _ | exact hxI2 _ _ | exact hIa _ _ | exact hIb _ _ | exact g_b32 | exact g_and32 | assumption | exact ⟨by omega, by omega⟩) (by first | exact hI _ _ | exact hxI2 _ _ | exact hIa _ _ | exact hIb _ _ | exact g_b32 | exact g_and32 | assumption | exact ⟨by omega, by omega⟩) (by omega) ?_
        refine g_V4 hc (c_X13_crossOf w hR hmI3 (by omega) (by omega) (by omega) (by omega)) my_X13_crossOf mv_X13_crossOf ca_703 rfl rfl lm_X13_450 rfl (by decide) (Nat.le_of_ble_eq_true rfl) hm dX13_cross_49 (fun r4 n4 I4 J4 R4 hp4 => ?_)
        obtain ⟨rfl, rfl, hK4, hX4, rfl, t4, hR⟩ := hp4
        have hmI4 : q_rel I lb I4 := q_cg (fun k j hk => hK4 k j (fun z => hk (x_wa z))) hX4 hmI3
        have hfI4 : ∀ (k : Nat) (j : Int), ¬ x_a k j → I4 k j = M k j := fun k j hk => (hK4 k j (fun z => hk (x_wa z))).trans (hfI3 k j hk)
        refine g_goto (tgt := 56) hc dX13_cross_52 (by decide) ?_
        refine g_iret hc hm dX13_cross_56 ?_
        exact x_end (by rw [if_pos (by omega)]) hfI4 hmI4.g hR
set_option maxHeartbeats 4000000 in
set_option maxRecDepth 100000 in
/-- X13_born -/
theorem c_X13_born (w : g_W) {I : g_I} {J : g_J} {R : g_R} {lb tx : Nat} (hR : g_rf w R lb tx) {M : g_I} (hmM : q_rel I lb M) {s : Int} (g1 : g32 s) (hB : q_brt I M) : g_Met w g_n M J R yX13_born cX13_born 2 (some .int) 1 0 0 [(gvr w 703), (gvI s)] (x_rel w (some (gvI (if 0 ≤ s ∧ s < I 701 2 then I 702 s else -1))) x_a M J lb) := by
  refine g_intro (own := RX13) [some (gvr w 703), some (gvI s)] (by decide +kernel) rfl (by decide) (Nat.le_of_ble_eq_true rfl) rfl (fun i v hv => g_args 0 i v hv rfl) (fun x hc hm => ?_)
  have hfM : ∀ (k : Nat) (j : Int), ¬ x_a k j → M k j = M k j := fun _ _ _ => rfl
  have hI := hmM.gi
  have hTb := q_b1 hmM
  have hLv := hmM.lv
  have hC := hmM.cin
  have hL := hC.1
  obtain ⟨hn0, hn1, hLs, hLf⟩ := id hL
  obtain ⟨-, hC1, hC2, hC3, hC4, hC5, hC6, hC7⟩ := id hC
  have hN0 := q_n0 hmM
  obtain ⟨hB1, hB2, hB3⟩ := id hB
  refine g_aldn hc dX13_born_0 rfl ?_
  refine g_iconst hc dX13_born_1 ?_
  refine g_putI' hc lk_X13_102 ca_703 0 rfl dX13_born_2 (fun I3 hI3 => ?_)
  have hmI3 : q_rel I lb I3 := by rw [hI3]; exact q_up hmM (by unfold x_a; omega) (by first | exact hI _ _ | exact hmM.g _ _ | exact g_b32 | exact g_and32 | exact g_or32 | exact g_shl32 | assumption | exact ⟨by omega, by omega⟩)
  have hfI3 : ∀ (k : Nat) (j : Int), ¬ x_a k j → I3 k j = M k j := fun k j hk => by rw [hI3]; exact (g_up_n (by unfold x_a at hk; omega)).trans (hfM k j hk)
  refine g_iload_n hc dX13_born_5 rfl ?_
  refine g_i2l hc dX13_born_6 (by first | exact hI _ _ | exact hxI2 _ _ | exact hIa _ _ | exact hIb _ _ | exact g_b32 | exact g_and32 | assumption | exact ⟨by omega, by omega⟩) ?_
  refine g_lconst hc dX13_born_7 0 (by decide +kernel) ?_
  refine g_aldn hc dX13_born_8 rfl ?_
  refine g_getIe hc lk_X13_298 ca_703 41 rfl (show I3 703 41 = I 701 2 from by rw [hI3, g_up_n (by omega)]; exact hB1) dX13_born_9 ?_
  refine g_iconst hc dX13_born_12 ?_
  refine g_isub hc dX13_born_13 ?_
  refine g_i2l hc dX13_born_14 (by first | exact hI _ _ | exact hxI2 _ _ | exact hIa _ _ | exact hIb _ _ | exact g_b32 | exact g_and32 | assumption | exact ⟨by omega, by omega⟩) ?_
  refine g_S3r hc (c_X13_isIn w (by first | exact hI _ _ | exact hmM.g _ _ | exact g_b32 | exact g_and32 | exact g_or32 | exact g_shl32 | assumption | exact ⟨by omega, by omega⟩) (by first | exact hI _ _ | exact hmM.g _ _ | exact g_b32 | exact g_and32 | exact g_or32 | exact g_shl32 | assumption | exact ⟨by omega, by omega⟩) (by first | exact hI _ _ | exact hmM.g _ _ | exact g_b32 | exact g_and32 | exact g_or32 | exact g_shl32 | assumption | exact ⟨by omega, by omega⟩)) my_X13_isIn ms_X13_isIn lm_X13_231 rfl (by decide) (Nat.le_of_ble_eq_true rfl) hm dX13_born_15 ?_
  refine g_ifb_eq (tgt := 30) hc dX13_born_18 (by decide)  (fun c1 => ?_) (fun c1 => ?_)
  · skip
    refine g_iconst hc dX13_born_30 ?_
    refine g_iret hc hm dX13_born_31 ?_
    exact x_end (by rw [if_neg (by omega)]) hfI3 hmI3.g hR
  · skip
    refine g_aldn hc dX13_born_21 rfl ?_
    refine g_getRk hc lk_X13_93 ca_703 (rc_703_40 hR) dX13_born_22 ?_
    refine g_iload_n hc dX13_born_25 rfl ?_
    refine g_ialde hc ca_725 (by decide) (by omega) (by omega) (show I3 725 s = I 702 s from by rw [hI3, g_up_n (by omega)]; exact hB3 s (by omega) (by omega)) dX13_born_26 ?_
    refine g_goto (tgt := 31) hc dX13_born_27 (by decide) ?_
    refine g_iret hc hm dX13_born_31 ?_
    exact x_end (by rw [if_pos (by omega)]) hfI3 hmI3.g hR
set_option maxHeartbeats 4000000 in
set_option maxRecDepth 100000 in
/-- X13_fork -/
theorem c_X13_fork (w : g_W) {I : g_I} {J : g_J} {R : g_R} {lb tx : Nat} (hR : g_rf w R lb tx) {M : g_I} (hmM : q_rel I lb M) {f k : Int} (g1 : g32 f) (g2 : g32 k) : g_Met w g_n M J R yX13_fork cX13_fork 3 (some .int) 3 0 0 [(gvr w 703), (gvI f), (gvI k)] (x_rel w (some (gvI (if (0 ≤ f ∧ f < I lb 1) ∧ 0 ≤ k ∧ k ≤ 5 then x_fk I lb f k else -1))) x_a M J lb) := by
  refine g_intro (own := RX13) [some (gvr w 703), some (gvI f), some (gvI k)] (by decide +kernel) rfl (by decide) (Nat.le_of_ble_eq_true rfl) rfl (fun i v hv => g_args 0 i v hv rfl) (fun x hc hm => ?_)
  have hfM : ∀ (k : Nat) (j : Int), ¬ x_a k j → M k j = M k j := fun _ _ _ => rfl
  have hI := hmM.gi
  have hTb := q_b1 hmM
  have hLv := hmM.lv
  have hC := hmM.cin
  have hL := hC.1
  obtain ⟨hn0, hn1, hLs, hLf⟩ := id hL
  obtain ⟨-, hC1, hC2, hC3, hC4, hC5, hC6, hC7⟩ := id hC
  have hN0 := q_n0 hmM
  refine g_aldn hc dX13_fork_0 rfl ?_
  refine g_iconst hc dX13_fork_1 ?_
  refine g_putI' hc lk_X13_102 ca_703 0 rfl dX13_fork_2 (fun I3 hI3 => ?_)
  have hmI3 : q_rel I lb I3 := by rw [hI3]; exact q_up hmM (by unfold x_a; omega) (by first | exact hI _ _ | exact hmM.g _ _ | exact g_b32 | exact g_and32 | exact g_or32 | exact g_shl32 | assumption | exact ⟨by omega, by omega⟩)
  have hfI3 : ∀ (k : Nat) (j : Int), ¬ x_a k j → I3 k j = M k j := fun k j hk => by rw [hI3]; exact (g_up_n (by unfold x_a at hk; omega)).trans (hfM k j hk)
  refine g_aldn hc dX13_fork_5 rfl ?_
  refine g_iload_n hc dX13_fork_6 rfl ?_
  refine g_V1r hc (c_X13_isFork w hR hmI3 (by first | exact hI _ _ | exact hmM.g _ _ | exact g_b32 | exact g_and32 | exact g_or32 | exact g_shl32 | assumption | exact ⟨by omega, by omega⟩)) my_X13_isFork mv_X13_isFork ca_703 rfl rfl lm_X13_304 rfl (by decide) (Nat.le_of_ble_eq_true rfl) hm dX13_fork_7 ?_
  refine g_ifb_eq (tgt := 25) hc dX13_fork_10 (by decide)  (fun c1 => ?_) (fun c1 => ?_)
  · skip
    refine g_iconst hc dX13_fork_25 ?_
    refine g_iret hc hm dX13_fork_26 ?_
    exact x_end (by rw [if_neg (by omega)]) hfI3 hmI3.g hR
  · skip
    refine g_iload_n hc dX13_fork_13 rfl ?_
    refine g_i2l hc dX13_fork_14 (by first | exact hI _ _ | exact hxI2 _ _ | exact hIa _ _ | exact hIb _ _ | exact g_b32 | exact g_and32 | assumption | exact ⟨by omega, by omega⟩) ?_
    refine g_lconst hc dX13_fork_15 0 (by decide +kernel) ?_
    refine g_ldc2 (k := 5) hc dX13_fork_16 _ lc_X13_327 (by decide +kernel) ?_
    refine g_S3r hc (c_X13_isIn w (by first | exact hI _ _ | exact hmM.g _ _ | exact g_b32 | exact g_and32 | exact g_or32 | exact g_shl32 | assumption | exact ⟨by omega, by omega⟩) (by first | exact hI _ _ | exact hmM.g _ _ | exact g_b32 | exact g_and32 | exact g_or32 | exact g_shl32 | assumption | exact ⟨by omega, by omega⟩) (by first | exact hI _ _ | exact hmM.g _ _ | exact g_b32 | exact g_and32 | exact g_or32 | exact g_shl32 | assumption | exact ⟨by omega, by omega⟩)) my_X13_isIn ms_X13_isIn lm_X13_231 rfl (by decide) (Nat.le_of_ble_eq_true rfl) hm dX13_fork_19 ?_
    refine g_ifb_ne (tgt := 27) hc dX13_fork_22 (by decide)  (fun c2 => ?_) (fun c2 => ?_)
    · skip
      refine g_iload_n hc dX13_fork_27 rfl ?_
      refine g_iconst hc dX13_fork_28 ?_
      refine g_icmp_ge (tgt := 51) hc dX13_fork_29 (by decide) (by first | exact hI _ _ | exact hxI2 _ _ | exact hIa _ _ | exact hIb _ _ | exact g_b32 | exact g_and32 | assumption | exact ⟨by omega, by omega⟩) (by first | exact hI _ _ | exact hxI2 _ _ | exact hIa _ _ | exact hIb _ _ | exact g_b32 | exact g_and32 | assumption | exact ⟨by omega, by omega⟩) (fun c3 => ?_) (fun c3 => ?_)
      · skip
        refine g_iload_n hc dX13_fork_51 rfl ?_
        refine g_iconst hc dX13_fork_52 ?_
        refine g_icmp_ne (tgt := 64) hc dX13_fork_53 (by decide) (by first | exact hI _ _ | exact hxI2 _ _ | exact hIa _ _ | exact hIb _ _ | exact g_b32 | exact g_and32 | assumption | exact ⟨by omega, by omega⟩) (by first | exact hI _ _ | exact hxI2 _ _ | exact hIa _ _ | exact hIb _ _ | exact g_b32 | exact g_and32 | assumption | exact ⟨by omega, by omega⟩) (fun c4 => ?_) (fun c4 => ?_)
        · skip
          refine g_iload_n hc dX13_fork_64 rfl ?_
          refine g_iconst hc dX13_fork_65 ?_
          refine g_icmp_ne (tgt := 88) hc dX13_fork_66 (by decide) (by first | exact hI _ _ | exact hxI2 _ _ | exact hIa _ _ | exact hIb _ _ | exact g_b32 | exact g_and32 | assumption | exact ⟨by omega, by omega⟩) (by first | exact hI _ _ | exact hxI2 _ _ | exact hIa _ _ | exact hIb _ _ | exact g_b32 | exact g_and32 | assumption | exact ⟨by omega, by omega⟩) (fun c5 => ?_) (fun c5 => ?_)
          · skip
            refine g_aldn hc dX13_fork_88 rfl ?_
            refine g_iload_n hc dX13_fork_89 rfl ?_
            refine g_V1 hc (c_X13_behind w hR hmI3 (by omega)) my_X13_behind mv_X13_behind ca_703 rfl rfl lm_X13_332 rfl (by decide) (Nat.le_of_ble_eq_true rfl) hm dX13_fork_90 (fun r4 n4 I4 J4 R4 hp4 => ?_)
            obtain ⟨rfl, rfl, hK4, hX4, rfl, t4, hR⟩ := hp4
            have hmI4 : q_rel I lb I4 := q_cg (fun k j hk => hK4 k j (fun z => hk (x_wa z))) hX4 hmI3
            have hfI4 : ∀ (k : Nat) (j : Int), ¬ x_a k j → I4 k j = M k j := fun k j hk => (hK4 k j (fun z => hk (x_wa z))).trans (hfI3 k j hk)
            refine g_iret hc hm dX13_fork_93 ?_
            exact x_end (by rw [if_pos (by omega)]; unfold x_fk; rw [if_neg (by omega)]; rw [if_neg (by omega)]; rw [if_neg (by omega)]; rw [if_neg (by omega)]; rw [if_neg (by omega)]) hfI4 hmI4.g hR
          · skip
            refine g_aldn hc dX13_fork_69 rfl ?_
            refine g_getRk hc lk_X13_40 ca_703 (rc_703_19 hR) dX13_fork_70 ?_
            refine g_aldn hc dX13_fork_73 rfl ?_
            refine g_aldn hc dX13_fork_74 rfl ?_
            refine g_getIe hc lk_X13_52 ca_703 24 rfl (show I3 703 24 = I 0 12 from hmI3.tab) dX13_fork_75 ?_
            refine g_iload_n hc dX13_fork_78 rfl ?_
            refine g_V2r hc (c_X13_forkAt w) my_X13_forkAt mv_X13_forkAt ca_703 rfl rfl lm_X13_249 rfl (by decide) (Nat.le_of_ble_eq_true rfl) hm dX13_fork_79 ?_
            refine g_iconst hc dX13_fork_82 ?_
            refine g_iadd hc dX13_fork_83 ?_
            refine g_ialde hc ca_709 (by decide) (by omega) (by omega) (show I3 709 ((((I 0 12) * 18 + f) * 5) + 3) = I (lb + 44) f from q_ah hmI3 (by omega)) dX13_fork_84 ?_
            refine g_goto (tgt := 93) hc dX13_fork_85 (by decide) ?_
            refine g_iret hc hm dX13_fork_93 ?_
            exact x_end (by rw [if_pos (by omega)]; unfold x_fk; rw [if_neg (by omega)]; rw [if_neg (by omega)]; rw [if_neg (by omega)]; rw [if_neg (by omega)]; rw [if_pos (by omega)]) hfI3 hmI3.g hR
        · skip
          refine g_aldn hc dX13_fork_56 rfl ?_
          refine g_iload_n hc dX13_fork_57 rfl ?_
          refine g_V1r hc (c_X13_openMany w hR hmI3 (by omega)) my_X13_openMany mv_X13_openMany ca_703 rfl rfl lm_X13_329 rfl (by decide) (Nat.le_of_ble_eq_true rfl) hm dX13_fork_58 ?_
          refine g_goto (tgt := 93) hc dX13_fork_61 (by decide) ?_
          refine g_iret hc hm dX13_fork_93 ?_
          exact x_end (by rw [if_pos (by omega)]; unfold x_fk; rw [if_neg (by omega)]; rw [if_neg (by omega)]; rw [if_neg (by omega)]; rw [if_pos (by omega)]) hfI3 hmI3.g hR
      · skip
        refine g_aldn hc dX13_fork_32 rfl ?_
        refine g_getRk hc lk_X13_40 ca_703 (rc_703_19 hR) dX13_fork_33 ?_
        refine g_aldn hc dX13_fork_36 rfl ?_
        refine g_aldn hc dX13_fork_37 rfl ?_
        refine g_getIe hc lk_X13_52 ca_703 24 rfl (show I3 703 24 = I 0 12 from hmI3.tab) dX13_fork_38 ?_
        refine g_iload_n hc dX13_fork_41 rfl ?_
        refine g_V2r hc (c_X13_forkAt w) my_X13_forkAt mv_X13_forkAt ca_703 rfl rfl lm_X13_249 rfl (by decide) (Nat.le_of_ble_eq_true rfl) hm dX13_fork_42 ?_
        refine g_iload_n hc dX13_fork_45 rfl ?_
        refine g_iadd hc dX13_fork_46 ?_
        refine g_ialde hc ca_709 (by decide) (by omega) (by omega) (show I3 709 ((((I 0 12) * 18 + f) * 5) + k) = x_fk I lb f k from q_fkk hmI3 (by omega) (by omega)) dX13_fork_47 ?_
        refine g_goto (tgt := 93) hc dX13_fork_48 (by decide) ?_
        refine g_iret hc hm dX13_fork_93 ?_
        exact x_end (by rw [if_pos (by omega)]) hfI3 hmI3.g hR
    · skip
      refine g_iconst hc dX13_fork_25 ?_
      refine g_iret hc hm dX13_fork_26 ?_
      exact x_end (by rw [if_neg (by omega)]) hfI3 hmI3.g hR
set_option maxHeartbeats 4000000 in
set_option maxRecDepth 100000 in
/-- X13_branch -/
theorem c_X13_branch (w : g_W) {I : g_I} {J : g_J} {R : g_R} {lb tx : Nat} (hR : g_rf w R lb tx) {M : g_I} (hmM : q_rel I lb M) {f r k : Int} (g1 : g32 f) (g2 : g32 r) (g3 : g32 k) : g_Met w g_n M J R yX13_branch cX13_branch 4 (some .int) 3 0 0 [(gvr w 703), (gvI f), (gvI r), (gvI k)] (x_rel w (some (gvI (if ((0 ≤ f ∧ f < I lb 1) ∧ 0 ≤ r ∧ r < I (lb + 43) f) ∧ 0 ≤ k ∧ k ≤ 6 then x_br I lb f r k else -1))) x_a M J lb) := by
  refine g_intro (own := RX13) [some (gvr w 703), some (gvI f), some (gvI r), some (gvI k)] (by decide +kernel) rfl (by decide) (Nat.le_of_ble_eq_true rfl) rfl (fun i v hv => g_args 0 i v hv rfl) (fun x hc hm => ?_)
  have hfM : ∀ (k : Nat) (j : Int), ¬ x_a k j → M k j = M k j := fun _ _ _ => rfl
  have hI := hmM.gi
  have hTb := q_b1 hmM
  have hLv := hmM.lv
  have hC := hmM.cin
  have hL := hC.1
  obtain ⟨hn0, hn1, hLs, hLf⟩ := id hL
  obtain ⟨-, hC1, hC2, hC3, hC4, hC5, hC6, hC7⟩ := id hC
  have hN0 := q_n0 hmM
  refine g_aldn hc dX13_branch_0 rfl ?_
  refine g_iconst hc dX13_branch_1 ?_
  refine g_putI' hc lk_X13_102 ca_703 0 rfl dX13_branch_2 (fun I3 hI3 => ?_)
  have hmI3 : q_rel I lb I3 := by rw [hI3]; exact q_up hmM (by unfold x_a; omega) (by first | exact hI _ _ | exact hmM.g _ _ | exact g_b32 | exact g_and32 | exact g_or32 | exact g_shl32 | assumption | exact ⟨by omega, by omega⟩)
  have hfI3 : ∀ (k : Nat) (j : Int), ¬ x_a k j → I3 k j = M k j := fun k j hk => by rw [hI3]; exact (g_up_n (by unfold x_a at hk; omega)).trans (hfM k j hk)
  refine g_aldn hc dX13_branch_5 rfl ?_
  refine g_iload_n hc dX13_branch_6 rfl ?_
  refine g_iload_n hc dX13_branch_7 rfl ?_
  refine g_V2r hc (c_X13_isBranch w hR hmI3 (by first | exact hI _ _ | exact hmM.g _ _ | exact g_b32 | exact g_and32 | exact g_or32 | exact g_shl32 | assumption | exact ⟨by omega, by omega⟩) (by first | exact hI _ _ | exact hmM.g _ _ | exact g_b32 | exact g_and32 | exact g_or32 | exact g_shl32 | assumption | exact ⟨by omega, by omega⟩)) my_X13_isBranch mv_X13_isBranch ca_703 rfl rfl lm_X13_335 rfl (by decide) (Nat.le_of_ble_eq_true rfl) hm dX13_branch_8 ?_
  refine g_ifb_eq (tgt := 26) hc dX13_branch_11 (by decide)  (fun c1 => ?_) (fun c1 => ?_)
  · skip
    refine g_iconst hc dX13_branch_26 ?_
    refine g_iret hc hm dX13_branch_27 ?_
    exact x_end (by rw [if_neg (by omega)]) hfI3 hmI3.g hR
  · skip
    refine g_iload_n hc dX13_branch_14 rfl ?_
    refine g_i2l hc dX13_branch_15 (by first | exact hI _ _ | exact hxI2 _ _ | exact hIa _ _ | exact hIb _ _ | exact g_b32 | exact g_and32 | assumption | exact ⟨by omega, by omega⟩) ?_
    refine g_lconst hc dX13_branch_16 0 (by decide +kernel) ?_
    refine g_ldc2 (k := 6) hc dX13_branch_17 _ lc_X13_338 (by decide +kernel) ?_
    refine g_S3r hc (c_X13_isIn w (by first | exact hI _ _ | exact hmM.g _ _ | exact g_b32 | exact g_and32 | exact g_or32 | exact g_shl32 | assumption | exact ⟨by omega, by omega⟩) (by first | exact hI _ _ | exact hmM.g _ _ | exact g_b32 | exact g_and32 | exact g_or32 | exact g_shl32 | assumption | exact ⟨by omega, by omega⟩) (by first | exact hI _ _ | exact hmM.g _ _ | exact g_b32 | exact g_and32 | exact g_or32 | exact g_shl32 | assumption | exact ⟨by omega, by omega⟩)) my_X13_isIn ms_X13_isIn lm_X13_231 rfl (by decide) (Nat.le_of_ble_eq_true rfl) hm dX13_branch_20 ?_
    refine g_ifb_ne (tgt := 28) hc dX13_branch_23 (by decide)  (fun c2 => ?_) (fun c2 => ?_)
    · skip
      have hTs := q_ts hmM (by omega)
      obtain ⟨hk2, hk1, hy, hit⟩ := hLf f (by omega) (by omega)
      refine g_iload_n hc dX13_branch_28 rfl ?_
      refine g_iconst hc dX13_branch_29 ?_
      refine g_icmp_ge (tgt := 53) hc dX13_branch_30 (by decide) (by first | exact hI _ _ | exact hxI2 _ _ | exact hIa _ _ | exact hIb _ _ | exact g_b32 | exact g_and32 | assumption | exact ⟨by omega, by omega⟩) (by first | exact hI _ _ | exact hxI2 _ _ | exact hIa _ _ | exact hIb _ _ | exact g_b32 | exact g_and32 | assumption | exact ⟨by omega, by omega⟩) (fun c3 => ?_) (fun c3 => ?_)
      · skip
        refine g_iload_n hc dX13_branch_53 rfl ?_
        refine g_iconst hc dX13_branch_54 ?_
        refine g_icmp_ne (tgt := 79) hc dX13_branch_55 (by decide) (by first | exact hI _ _ | exact hxI2 _ _ | exact hIa _ _ | exact hIb _ _ | exact g_b32 | exact g_and32 | assumption | exact ⟨by omega, by omega⟩) (by first | exact hI _ _ | exact hxI2 _ _ | exact hIa _ _ | exact hIb _ _ | exact g_b32 | exact g_and32 | assumption | exact ⟨by omega, by omega⟩) (fun c4 => ?_) (fun c4 => ?_)
        · skip
          refine g_aldn hc dX13_branch_79 rfl ?_
          refine g_getRk hc lk_X13_43 ca_703 (rc_703_20 hR) dX13_branch_80 ?_
          refine g_aldn hc dX13_branch_83 rfl ?_
          refine g_aldn hc dX13_branch_84 rfl ?_
          refine g_getIe hc lk_X13_52 ca_703 24 rfl (show I3 703 24 = I 0 12 from hmI3.tab) dX13_branch_85 ?_
          refine g_iload_n hc dX13_branch_88 rfl ?_
          refine g_iload_n hc dX13_branch_89 rfl ?_
          refine g_V3r hc (c_X13_branchAt w) my_X13_branchAt mv_X13_branchAt ca_703 rfl rfl lm_X13_262 rfl (by decide) (Nat.le_of_ble_eq_true rfl) hm dX13_branch_90 ?_
          refine g_iconst hc dX13_branch_93 ?_
          refine g_iadd hc dX13_branch_94 ?_
          refine g_ialde hc ca_710 (by decide) (by omega) (by omega) (show I3 710 (((((I 0 12) * 18 + f) * 4 + r) * 6) + 5) = I (lb + 127) (f * 4 + r) from q_tg hmI3 (by omega) (by omega)) dX13_branch_95 ?_
          refine g_iret hc hm dX13_branch_96 ?_
          exact x_end (by rw [if_pos (by omega)]; unfold x_br; rw [if_neg (by omega), if_pos (by omega)]) hfI3 hmI3.g hR
        · skip
          refine g_aldn hc dX13_branch_58 rfl ?_
          refine g_getRk hc lk_X13_56 ca_703 (rc_703_25 hR) dX13_branch_59 ?_
          refine g_iconst hc dX13_branch_62 ?_
          refine g_iload_n hc dX13_branch_63 rfl ?_
          refine g_imul hc dX13_branch_64 ?_
          refine g_iload_n hc dX13_branch_65 rfl ?_
          refine g_iadd hc dX13_branch_66 ?_
          refine g_zalde hc ca_713 (by decide) (by omega) (by omega) (show I3 713 ((4 * f) + r) = g_b (g_bit (I 550 (4 + f)) r) from hmI3.opn (by omega) (by omega)) dX13_branch_67 ?_
          refine g_ifb_eq (tgt := 75) hc dX13_branch_68 (by decide)  (fun c5 => ?_) (fun c5 => ?_)
          · skip
            refine g_iconst hc dX13_branch_75 ?_
            refine g_goto (tgt := 96) hc dX13_branch_76 (by decide) ?_
            refine g_iret hc hm dX13_branch_96 ?_
            exact x_end (by rw [if_pos (by omega)]; unfold x_br; rw [if_pos (by omega), g_b0 (by assumption)]) hfI3 hmI3.g hR
          · skip
            refine g_iconst hc dX13_branch_71 ?_
            refine g_goto (tgt := 96) hc dX13_branch_72 (by decide) ?_
            refine g_iret hc hm dX13_branch_96 ?_
            exact x_end (by rw [if_pos (by omega)]; unfold x_br; rw [if_pos (by omega), g_b1 (by assumption)]) hfI3 hmI3.g hR
      · skip
        refine g_aldn hc dX13_branch_33 rfl ?_
        refine g_getRk hc lk_X13_43 ca_703 (rc_703_20 hR) dX13_branch_34 ?_
        refine g_aldn hc dX13_branch_37 rfl ?_
        refine g_aldn hc dX13_branch_38 rfl ?_
        refine g_getIe hc lk_X13_52 ca_703 24 rfl (show I3 703 24 = I 0 12 from hmI3.tab) dX13_branch_39 ?_
        refine g_iload_n hc dX13_branch_42 rfl ?_
        refine g_iload_n hc dX13_branch_43 rfl ?_
        refine g_V3r hc (c_X13_branchAt w) my_X13_branchAt mv_X13_branchAt ca_703 rfl rfl lm_X13_262 rfl (by decide) (Nat.le_of_ble_eq_true rfl) hm dX13_branch_44 ?_
        refine g_iload_n hc dX13_branch_47 rfl ?_
        refine g_iadd hc dX13_branch_48 ?_
        refine g_ialde hc ca_710 (by decide) (by omega) (by omega) (show I3 710 (((((I 0 12) * 18 + f) * 4 + r) * 6) + k) = I (lb + 47 + (f * 4 + r).toNat) k from q_bi hmI3 (by omega) (by omega) (by omega)) dX13_branch_49 ?_
        refine g_goto (tgt := 96) hc dX13_branch_50 (by decide) ?_
        refine g_iret hc hm dX13_branch_96 ?_
        exact x_end (by rw [if_pos (by omega)]; unfold x_br; rw [if_neg (by omega), if_neg (by omega)]) hfI3 hmI3.g hR
    · skip
      refine g_iconst hc dX13_branch_26 ?_
      refine g_iret hc hm dX13_branch_27 ?_
      exact x_end (by rw [if_neg (by omega)]) hfI3 hmI3.g hR
set_option maxHeartbeats 4000000 in
set_option maxRecDepth 100000 in
/-- X13_value -/
theorem c_X13_value (w : g_W) {I : g_I} {J : g_J} {R : g_R} {lb tx : Nat} (hR : g_rf w R lb tx) {M : g_I} (hmM : q_rel I lb M) {f k : Int} (g1 : g32 f) (g2 : g32 k) : g_Met w g_n M J R yX13_value cX13_value 3 (some .int) 56 0 0 [(gvr w 703), (gvI f), (gvI k)] (x_rel w (some (gvI (if (0 ≤ f ∧ f < I lb 1) ∧ (k = -1 ∨ (0 ≤ k ∧ k < I (lb + 43) f)) then (if k = -1 then g_w5 I lb f else g_bhd I lb (g_w5 I lb) f k) else -2000000000))) x_a M J lb) := by
  refine g_intro (own := RX13) [some (gvr w 703), some (gvI f), some (gvI k)] (by decide +kernel) rfl (by decide) (Nat.le_of_ble_eq_true rfl) rfl (fun i v hv => g_args 0 i v hv rfl) (fun x hc hm => ?_)
  have hfM : ∀ (k : Nat) (j : Int), ¬ x_a k j → M k j = M k j := fun _ _ _ => rfl
  have hI := hmM.gi
  have hTb := q_b1 hmM
  have hLv := hmM.lv
  have hC := hmM.cin
  have hL := hC.1
  obtain ⟨hn0, hn1, hLs, hLf⟩ := id hL
  obtain ⟨-, hC1, hC2, hC3, hC4, hC5, hC6, hC7⟩ := id hC
  have hN0 := q_n0 hmM
  refine g_aldn hc dX13_value_0 rfl ?_
  refine g_iconst hc dX13_value_1 ?_
  refine g_putI' hc lk_X13_102 ca_703 0 rfl dX13_value_2 (fun I3 hI3 => ?_)
  have hmI3 : q_rel I lb I3 := by rw [hI3]; exact q_up hmM (by unfold x_a; omega) (by first | exact hI _ _ | exact hmM.g _ _ | exact g_b32 | exact g_and32 | exact g_or32 | exact g_shl32 | assumption | exact ⟨by omega, by omega⟩)
  have hfI3 : ∀ (k : Nat) (j : Int), ¬ x_a k j → I3 k j = M k j := fun k j hk => by rw [hI3]; exact (g_up_n (by unfold x_a at hk; omega)).trans (hfM k j hk)
  refine g_iload_n hc dX13_value_5 rfl ?_
  refine g_iconst hc dX13_value_6 ?_
  refine g_icmp_ne (tgt := 21) hc dX13_value_7 (by decide) (by first | exact hI _ _ | exact hxI2 _ _ | exact hIa _ _ | exact hIb _ _ | exact g_b32 | exact g_and32 | assumption | exact ⟨by omega, by omega⟩) (by first | exact hI _ _ | exact hxI2 _ _ | exact hIa _ _ | exact hIb _ _ | exact g_b32 | exact g_and32 | assumption | exact ⟨by omega, by omega⟩) (fun c1 => ?_) (fun c1 => ?_)
  · skip
    refine g_aldn hc dX13_value_21 rfl ?_
    refine g_iload_n hc dX13_value_22 rfl ?_
    refine g_iload_n hc dX13_value_23 rfl ?_
    refine g_V2r hc (c_X13_isBranch w hR hmI3 (by first | exact hI _ _ | exact hmM.g _ _ | exact g_b32 | exact g_and32 | exact g_or32 | exact g_shl32 | assumption | exact ⟨by omega, by omega⟩) (by first | exact hI _ _ | exact hmM.g _ _ | exact g_b32 | exact g_and32 | exact g_or32 | exact g_shl32 | assumption | exact ⟨by omega, by omega⟩)) my_X13_isBranch mv_X13_isBranch ca_703 rfl rfl lm_X13_335 rfl (by decide) (Nat.le_of_ble_eq_true rfl) hm dX13_value_24 ?_
    refine g_ifb_ne (tgt := 34) hc dX13_value_27 (by decide)  (fun c2 => ?_) (fun c2 => ?_)
    · skip
      refine g_iload_n hc dX13_value_34 rfl ?_
      refine g_iconst hc dX13_value_35 ?_
      refine g_icmp_ne (tgt := 50) hc dX13_value_36 (by decide) (by first | exact hI _ _ | exact hxI2 _ _ | exact hIa _ _ | exact hIb _ _ | exact g_b32 | exact g_and32 | assumption | exact ⟨by omega, by omega⟩) (by first | exact hI _ _ | exact hxI2 _ _ | exact hIa _ _ | exact hIb _ _ | exact g_b32 | exact g_and32 | assumption | exact ⟨by omega, by omega⟩) (fun c3 => ?_) (fun c3 => ?_)
      · skip
        obtain ⟨hk2, hk1, hy, hit⟩ := hLf f (by omega) (by omega)
        obtain ⟨hb0, hb1, hb2, hb3, hb4, htg⟩ := hit k (by omega) (by omega)
        have hvf := q_val_in hC (nd := I (lb + 127) (f * 4 + k)) (by omega)
        have hvg := q_bhd (I := I) (b := lb) (f := f) (r := k) (by omega) (by omega)
        refine g_aldn hc dX13_value_50 rfl ?_
        refine g_iload_n hc dX13_value_51 rfl ?_
        refine g_iload_n hc dX13_value_52 rfl ?_
        refine g_V2 hc (c_X13_behindOf w hR hmI3 (by omega) (by omega)) my_X13_behindOf mv_X13_behindOf ca_703 rfl rfl lm_X13_383 rfl (by decide) (Nat.le_of_ble_eq_true rfl) hm dX13_value_53 (fun r4 n4 I4 J4 R4 hp4 => ?_)
        obtain ⟨rfl, rfl, hK4, hX4, rfl, t4, hR⟩ := hp4
        have hmI4 : q_rel I lb I4 := q_cg hK4 hX4 hmI3
        have hfI4 : ∀ (k : Nat) (j : Int), ¬ x_a k j → I4 k j = M k j := fun k j hk => (hK4 k j hk).trans (hfI3 k j hk)
        refine g_l2i hc dX13_value_56 ?_
        refine g_iret hc hm dX13_value_57 ?_
        exact x_end (by rw [if_pos (by omega), if_neg (by omega)]) hfI4 hmI4.g hR
      · skip
        have hvf := q_val_in hC (nd := 100 + f) (by omega)
        refine g_aldn hc dX13_value_39 rfl ?_
        refine g_bipush hc dX13_value_40 (by decide +kernel) ?_
        refine g_iload_n hc dX13_value_42 rfl ?_
        refine g_iadd hc dX13_value_43 ?_
        refine g_V1 hc (y_val w 18 hR hmI3 (by omega)) my_X13_valueOf mv_X13_valueOf ca_703 rfl rfl lm_X13_379 rfl (by decide) (Nat.le_of_ble_eq_true rfl) hm dX13_value_44 (fun r5 n5 I5 J5 R5 hp5 => ?_)
        obtain ⟨rfl, rfl, hK5, hX5, rfl, t5, hR⟩ := hp5
        have hmI5 : q_rel I lb I5 := q_cg hK5 hX5 hmI3
        have hfI5 : ∀ (k : Nat) (j : Int), ¬ x_a k j → I5 k j = M k j := fun k j hk => (hK5 k j hk).trans (hfI3 k j hk)
        refine g_goto (tgt := 56) hc dX13_value_47 (by decide) ?_
        refine g_l2i hc dX13_value_56 ?_
        refine g_iret hc hm dX13_value_57 ?_
        exact x_end (by rw [if_pos (by omega), if_pos (by omega), q_val, if_neg (by omega), show 100 + f - 100 = f by omega]) hfI5 hmI5.g hR
    · skip
      refine g_ldcw (k := (-2000000000)) hc dX13_value_30 _ lc_X13_376 (by decide +kernel) ?_
      refine g_iret hc hm dX13_value_33 ?_
      exact x_end (by rw [if_neg (by omega)]) hfI3 hmI3.g hR
  · skip
    refine g_aldn hc dX13_value_10 rfl ?_
    refine g_iload_n hc dX13_value_11 rfl ?_
    refine g_V1r hc (c_X13_isFork w hR hmI3 (by first | exact hI _ _ | exact hmM.g _ _ | exact g_b32 | exact g_and32 | exact g_or32 | exact g_shl32 | assumption | exact ⟨by omega, by omega⟩)) my_X13_isFork mv_X13_isFork ca_703 rfl rfl lm_X13_304 rfl (by decide) (Nat.le_of_ble_eq_true rfl) hm dX13_value_12 ?_
    refine g_ifb_ne (tgt := 34) hc dX13_value_15 (by decide)  (fun c4 => ?_) (fun c4 => ?_)
    · skip
      refine g_iload_n hc dX13_value_34 rfl ?_
      refine g_iconst hc dX13_value_35 ?_
      refine g_icmp_ne (tgt := 50) hc dX13_value_36 (by decide) (by first | exact hI _ _ | exact hxI2 _ _ | exact hIa _ _ | exact hIb _ _ | exact g_b32 | exact g_and32 | assumption | exact ⟨by omega, by omega⟩) (by first | exact hI _ _ | exact hxI2 _ _ | exact hIa _ _ | exact hIb _ _ | exact g_b32 | exact g_and32 | assumption | exact ⟨by omega, by omega⟩) (fun c5 => ?_) (fun c5 => ?_)
      · skip
        obtain ⟨hk2, hk1, hy, hit⟩ := hLf f (by omega) (by omega)
        obtain ⟨hb0, hb1, hb2, hb3, hb4, htg⟩ := hit k (by omega) (by omega)
        have hvf := q_val_in hC (nd := I (lb + 127) (f * 4 + k)) (by omega)
        have hvg := q_bhd (I := I) (b := lb) (f := f) (r := k) (by omega) (by omega)
        refine g_aldn hc dX13_value_50 rfl ?_
        refine g_iload_n hc dX13_value_51 rfl ?_
        refine g_iload_n hc dX13_value_52 rfl ?_
        refine g_V2 hc (c_X13_behindOf w hR hmI3 (by omega) (by omega)) my_X13_behindOf mv_X13_behindOf ca_703 rfl rfl lm_X13_383 rfl (by decide) (Nat.le_of_ble_eq_true rfl) hm dX13_value_53 (fun r6 n6 I6 J6 R6 hp6 => ?_)
        obtain ⟨rfl, rfl, hK6, hX6, rfl, t6, hR⟩ := hp6
        have hmI6 : q_rel I lb I6 := q_cg hK6 hX6 hmI3
        have hfI6 : ∀ (k : Nat) (j : Int), ¬ x_a k j → I6 k j = M k j := fun k j hk => (hK6 k j hk).trans (hfI3 k j hk)
        refine g_l2i hc dX13_value_56 ?_
        refine g_iret hc hm dX13_value_57 ?_
        exact x_end (by rw [if_pos (by omega), if_neg (by omega)]) hfI6 hmI6.g hR
      · skip
        have hvf := q_val_in hC (nd := 100 + f) (by omega)
        refine g_aldn hc dX13_value_39 rfl ?_
        refine g_bipush hc dX13_value_40 (by decide +kernel) ?_
        refine g_iload_n hc dX13_value_42 rfl ?_
        refine g_iadd hc dX13_value_43 ?_
        refine g_V1 hc (y_val w 18 hR hmI3 (by omega)) my_X13_valueOf mv_X13_valueOf ca_703 rfl rfl lm_X13_379 rfl (by decide) (Nat.le_of_ble_eq_true rfl) hm dX13_value_44 (fun r7 n7 I7 J7 R7 hp7 => ?_)
        obtain ⟨rfl, rfl, hK7, hX7, rfl, t7, hR⟩ := hp7
        have hmI7 : q_rel I lb I7 := q_cg hK7 hX7 hmI3
        have hfI7 : ∀ (k : Nat) (j : Int), ¬ x_a k j → I7 k j = M k j := fun k j hk => (hK7 k j hk).trans (hfI3 k j hk)
        refine g_goto (tgt := 56) hc dX13_value_47 (by decide) ?_
        refine g_l2i hc dX13_value_56 ?_
        refine g_iret hc hm dX13_value_57 ?_
        exact x_end (by rw [if_pos (by omega), if_pos (by omega), q_val, if_neg (by omega), show 100 + f - 100 = f by omega]) hfI7 hmI7.g hR
    · skip
      refine g_goto (tgt := 30) hc dX13_value_18 (by decide) ?_
      refine g_ldcw (k := (-2000000000)) hc dX13_value_30 _ lc_X13_376 (by decide +kernel) ?_
      refine g_iret hc hm dX13_value_33 ?_
      exact x_end (by rw [if_neg (by omega)]) hfI3 hmI3.g hR
