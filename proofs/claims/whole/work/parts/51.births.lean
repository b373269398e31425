theorem g_drw_in {x m : Int} : (m ≤ 0 → g_drw x m = 0) ∧ (0 < m → -m < g_drw x m ∧ g_drw x m < m) := by
  constructor
  · intro h
    rw [g_drw, if_pos h]
  · intro h
    rw [g_drw, if_neg (by omega)]
    exact ⟨Int.lt_tmod_of_pos _ h, Int.tmod_lt_of_pos _ h⟩
set_option maxHeartbeats 4000000 in
set_option maxRecDepth 100000 in
/-- X0_draw -/
theorem c_X0_draw (w : g_W) {I : g_I} {J : g_J} {R : g_R} {lb tx : Nat} (hR : g_rf w R lb tx) (hlb : g_life lb) {I2 : g_I} (hI : ∀ k j, g32 (I k j)) (hsI2 : g_off I I2) (hxI2 : ∀ k j, g32 (I2 k j)) (hC : g_cin I lb) {m : Int} (hm0 : g32 m) : g_Met w g_n I2 J R yX0_draw cX0_draw 2 (some .int) 0 0 0 [(gvr w 701), (gvI m)] (fun rr nn II JJ RR => g_rel w (some (gvI (g_drw (J 701) m))) g_sT I2 JJ R rr nn II JJ RR ∧ JJ 701 = g_dnx (J 701) ∧ ∀ k : Nat, k ≠ 701 → JJ k = J k) := by
  refine g_intro (own := RX0) [some (gvr w 701), some (gvI m)] (by decide +kernel) rfl (by decide) (Nat.le_of_ble_eq_true rfl) rfl (fun i v hv => g_args 0 i v hv rfl) (fun x hc hm => ?_)
  have hL := hC.1
  obtain ⟨hn0, hn1, hLs, hLf⟩ := id hL
  obtain ⟨-, hC1, hC2, hC3, hC4, hC5, hC6, hC7⟩ := id hC
  have hlb5 := hlb
  unfold g_life at hlb5
  have hdI2 : ∀ k : Nat, ¬ g_sT k → I2 k = I2 k := fun _ _ => rfl
  refine g_aldn hc dX0_draw_0 rfl ?_
  refine g_aldn hc dX0_draw_1 rfl ?_
  refine g_getL hc lk_X0_23 ca_701 dX0_draw_2 ?_
  refine g_ldc2 (k := 6364136223846793005) hc dX0_draw_5 _ lc_X0_31 (by decide +kernel) ?_
  refine g_lmul hc dX0_draw_8 ?_
  refine g_ldc2 (k := 1442695040888963407) hc dX0_draw_9 _ lc_X0_33 (by decide +kernel) ?_
  refine g_ladd hc dX0_draw_12 ?_
  obtain ⟨J4, hJ4⟩ : ∃ J4, J4 = g_upJ J 701 (((J 701) * 6364136223846793005) + 1442695040888963407) := ⟨_, rfl⟩
  refine g_putLe (J2 := J4) hc lk_X0_23 ca_701 g_kd0 hJ4.symm dX0_draw_13 ?_
  have hJ1 : J4 701 = g_dnx (J 701) := by rw [hJ4]; exact if_pos rfl
  have hJ2 : ∀ k : Nat, k ≠ 701 → J4 k = J k := fun k hk => by rw [hJ4]; exact if_neg hk
  refine g_iload_n hc dX0_draw_16 rfl ?_
  refine g_if_gt (tgt := 24) hc dX0_draw_17 (by decide) (by first | exact hI _ _ | exact hxI2 _ _ | exact hIa _ _ | exact hIb _ _ | exact g_b32 | exact g_and32 | assumption | exact ⟨by omega, by omega⟩) (fun c1 => ?_) (fun c1 => ?_)
  · skip
    refine g_aldn hc dX0_draw_24 rfl ?_
    refine g_getL hc lk_X0_23 ca_701 dX0_draw_25 ?_
    refine g_bipush hc dX0_draw_28 (by decide +kernel) ?_
    refine g_lushr' hc dX0_draw_30 ?_
    refine g_iload_n hc dX0_draw_31 rfl ?_
    refine g_i2l hc dX0_draw_32 (by first | exact hI _ _ | exact hxI2 _ _ | exact hIa _ _ | exact hIb _ _ | exact g_b32 | exact g_and32 | assumption | exact ⟨by omega, by omega⟩) ?_
    refine g_lrem hc dX0_draw_33 (g64_of _) (by have := hm0.1; have := hm0.2; exact ⟨by omega, by omega⟩) (by omega) ?_
    refine g_l2i hc dX0_draw_34 ?_
    refine g_iret hc hm dX0_draw_35 ?_
    first | (exfalso; omega) | exact ⟨⟨by rw [g_drw, if_pos (by omega)], rfl, hdI2, hxI2, rfl, rfl⟩, hJ1, hJ2⟩ | exact ⟨⟨by rw [g_drw, if_neg (by omega), hJ1], rfl, hdI2, hxI2, rfl, rfl⟩, hJ1, hJ2⟩
  · skip
    refine g_iconst hc dX0_draw_20 ?_
    refine g_goto (tgt := 35) hc dX0_draw_21 (by decide) ?_
    refine g_iret hc hm dX0_draw_35 ?_
    first | (exfalso; omega) | exact ⟨⟨by rw [g_drw, if_pos (by omega)], rfl, hdI2, hxI2, rfl, rfl⟩, hJ1, hJ2⟩ | exact ⟨⟨by rw [g_drw, if_neg (by omega), hJ1], rfl, hdI2, hxI2, rfl, rfl⟩, hJ1, hJ2⟩
set_option maxHeartbeats 4000000 in
set_option maxRecDepth 100000 in
/-- X0_branchAt -/
theorem c_X0_branchAt (w : g_W) {I : g_I} {J : g_J} {R : g_R} {lb tx : Nat} (hR : g_rf w R lb tx) (hlb : g_life lb) {I2 : g_I} (hI : ∀ k j, g32 (I k j)) (hsI2 : g_off I I2) (hxI2 : ∀ k j, g32 (I2 k j)) (hC : g_cin I lb) {f m e wz : Int} (h1 : 0 ≤ f ∧ f < I lb 1) (h2 : -100 ≤ e ∧ e ≤ 100) (h3 : wz = 0 ∨ wz = 1) : g_Met w g_n I2 J R yX0_branchAt cX0_branchAt 7 (some .int) 2 0 0 [(gvr w 701), (gvI f), (gvI m), (gvI e), (gvI wz)] (g_post (some (gvI (g_bra I lb f m wz (I (lb + 43) f).toNat 0 e))) g_n I2 J R) := by
  refine g_intro (own := RX0) [some (gvr w 701), some (gvI f), some (gvI m), some (gvI e), some (gvI wz), none, none] (by decide +kernel) rfl (by decide) (Nat.le_of_ble_eq_true rfl) rfl (fun i v hv => g_args 2 i v hv rfl) (fun x hc hm => ?_)
  have hL := hC.1
  obtain ⟨hn0, hn1, hLs, hLf⟩ := id hL
  obtain ⟨-, hC1, hC2, hC3, hC4, hC5, hC6, hC7⟩ := id hC
  have hlb5 := hlb
  unfold g_life at hlb5
  have hdI2 : ∀ k : Nat, ¬ g_sV k → I2 k = I2 k := fun _ _ => rfl
  obtain ⟨hk2, hk1, hy, hit⟩ := hLf f h1.1 h1.2
  refine g_iload_n hc dX0_branchAt_0 rfl ?_
  refine g_istore_5 hc dX0_branchAt_1 rfl ?_
  refine g_iconst hc dX0_branchAt_3 ?_
  refine g_istore_6 hc dX0_branchAt_4 rfl ?_
  have lp_6 : ∀ (fu : Nat) (a i : Int), 0 ≤ i ∧ i ≤ I (lb + 43) f → g_bra I lb f m wz (I (lb + 43) f).toNat 0 e = g_bra I lb f m wz (I (lb + 43) f - i).toNat i a → -100 - 10 * i ≤ a ∧ a ≤ 100 → I (lb + 43) f - i < (fu : Int) → G w x (g_post (some (gvI (g_bra I lb f m wz (I (lb + 43) f).toNat 0 e))) g_n I2 J R) 0 0 g_n I2 J R 6 [some (gvr w 701), some (gvI f), some (gvI m), some (gvI e), some (gvI wz), some (gvI a), some (gvI i)] [] := by
    intro fu
    induction fu with
    | zero => intro a i h4 h5 h6 hfu; exfalso; omega
    | succ fu ih =>
      intro a i h4 h5 h6 hfu
      have ih_6 := ih
      refine g_iload hc dX0_branchAt_6 rfl ?_
      refine g_aldn hc dX0_branchAt_8 rfl ?_
      refine g_getRk hc lk_X0_15 ca_701 (rc_701_0 hR) dX0_branchAt_9 ?_
      refine g_getRvk hc lk_X0_35 ca_548 (rc_548_3 hR) dX0_branchAt_12 ?_
      refine g_getRk hc lk_X0_91 (la_0 hlb) (rl_8 hR hlb) dX0_branchAt_15 ?_
      refine g_iload_n hc dX0_branchAt_18 rfl ?_
      refine g_ialde hc (la_43 hlb) (by decide) (by omega) (by omega) (congrFun (hsI2 _ (by omega)) _) dX0_branchAt_19 ?_
      refine g_icmp_ge (tgt := 74) hc dX0_branchAt_20 (by decide) (by first | exact hI _ _ | exact hxI2 _ _ | exact hIa _ _ | exact hIb _ _ | exact g_b32 | exact g_and32 | assumption | exact ⟨by omega, by omega⟩) (by first | exact hI _ _ | exact hxI2 _ _ | exact hIa _ _ | exact hIb _ _ | exact g_b32 | exact g_and32 | assumption | exact ⟨by omega, by omega⟩) (fun c1 => ?_) (fun c1 => ?_)
      · skip
        refine g_iconst hc dX0_branchAt_74 ?_
        refine g_iret hc hm dX0_branchAt_75 ?_
        exact g_postE (by rw [h5, show (I (lb + 43) f - i).toNat = 0 by omega, g_bra])
      · skip
        have hwi := (hit i h4.1 (by omega)).1
        refine g_iload_n hc dX0_branchAt_23 rfl ?_
        refine g_iload hc dX0_branchAt_24 rfl ?_
        refine g_ishr hc dX0_branchAt_26 ?_
        refine g_iconst hc dX0_branchAt_27 ?_
        refine g_iand hc dX0_branchAt_28 ?_
        refine g_iconst hc dX0_branchAt_29 ?_
        refine g_icmp_ne (tgt := 68) hc dX0_branchAt_30 (by decide) (by first | exact hI _ _ | exact hxI2 _ _ | exact hIa _ _ | exact hIb _ _ | exact g_b32 | exact g_and32 | assumption | exact ⟨by omega, by omega⟩) (by first | exact hI _ _ | exact hxI2 _ _ | exact hIa _ _ | exact hIb _ _ | exact g_b32 | exact g_and32 | assumption | exact ⟨by omega, by omega⟩) (fun c2 => ?_) (fun c2 => ?_)
        · skip
          refine g_iinc_6 hc dX0_branchAt_68 rfl ?_
          refine g_goto (tgt := 6) hc dX0_branchAt_71 (by decide) ?_
          refine ih_6 _ _ ?_ ?_ ?_ ?_
          · omega
          · rw [h5, show (I (lb + 43) f - i).toNat = (I (lb + 43) f - (i + 1)).toNat + 1 by omega, g_bra]; first | rw [if_neg (by assumption)] | rw [if_pos (by assumption), if_neg (by omega), if_pos (by assumption)] | rw [if_pos (by assumption), hwz, if_neg (by omega)]
          · omega
          · omega
        · skip
          refine g_iload hc dX0_branchAt_33 rfl ?_
          refine g_iload hc dX0_branchAt_35 rfl ?_
          refine g_if_eq (tgt := 56) hc dX0_branchAt_37 (by decide) (by first | exact hI _ _ | exact hxI2 _ _ | exact hIa _ _ | exact hIb _ _ | exact g_b32 | exact g_and32 | assumption | exact ⟨by omega, by omega⟩) (fun c3 => ?_) (fun c3 => ?_)
          · skip
            have hwz : (if wz = 0 then 1 else I (lb + 47 + (f * 4 + i).toNat) 0) = 1 := if_pos (by omega)
            refine g_iconst hc dX0_branchAt_56 ?_
            refine g_isub hc dX0_branchAt_57 ?_
            refine g_istore_5 hc dX0_branchAt_58 rfl ?_
            refine g_iload hc dX0_branchAt_60 rfl ?_
            refine g_if_ge (tgt := 68) hc dX0_branchAt_62 (by decide) (by first | exact hI _ _ | exact hxI2 _ _ | exact hIa _ _ | exact hIb _ _ | exact g_b32 | exact g_and32 | assumption | exact ⟨by omega, by omega⟩) (fun c4 => ?_) (fun c4 => ?_)
            · skip
              refine g_iinc_6 hc dX0_branchAt_68 rfl ?_
              refine g_goto (tgt := 6) hc dX0_branchAt_71 (by decide) ?_
              refine ih_6 _ _ ?_ ?_ ?_ ?_
              · omega
              · rw [h5, show (I (lb + 43) f - i).toNat = (I (lb + 43) f - (i + 1)).toNat + 1 by omega, g_bra]; first | rw [if_neg (by assumption)] | rw [if_pos (by assumption), if_neg (by omega), if_pos (by assumption)] | rw [if_pos (by assumption), hwz, if_neg (by omega)]
              · omega
              · omega
            · skip
              refine g_iload hc dX0_branchAt_65 rfl ?_
              refine g_iret hc hm dX0_branchAt_67 ?_
              exact g_postE (by rw [h5, show (I (lb + 43) f - i).toNat = (I (lb + 43) f - (i + 1)).toNat + 1 by omega, g_bra, if_pos (by assumption), hwz, if_pos (by omega)])
          · skip
            have hwz : (if wz = 0 then 1 else I (lb + 47 + (f * 4 + i).toNat) 0) = I (lb + 47 + (f * 4 + i).toNat) 0 := if_neg (by omega)
            refine g_aldn hc dX0_branchAt_40 rfl ?_
            refine g_getRk hc lk_X0_15 ca_701 (rc_701_0 hR) dX0_branchAt_41 ?_
            refine g_getRvk hc lk_X0_35 ca_548 (rc_548_3 hR) dX0_branchAt_44 ?_
            refine g_iload_n hc dX0_branchAt_47 rfl ?_
            refine g_iload hc dX0_branchAt_48 rfl ?_
            refine g_V2r hc (c_X4_weight w hR hxI2 hlb (by omega) (by omega)) my_X4_weight mv_X4_weight (la_0 hlb) rfl rfl lm_X0_94 rfl (by decide) (Nat.le_of_ble_eq_true rfl) hm dX0_branchAt_50 ?_
            rw [show I2 (lb + 47 + (f * 4 + i).toNat) 0 = I (lb + 47 + (f * 4 + i).toNat) 0 from by rw [hsI2 _ (g_nl hlb (by omega) (by omega))]]
            refine g_goto (tgt := 57) hc dX0_branchAt_53 (by decide) ?_
            refine g_isub hc dX0_branchAt_57 ?_
            refine g_istore_5 hc dX0_branchAt_58 rfl ?_
            refine g_iload hc dX0_branchAt_60 rfl ?_
            refine g_if_ge (tgt := 68) hc dX0_branchAt_62 (by decide) (by first | exact hI _ _ | exact hxI2 _ _ | exact hIa _ _ | exact hIb _ _ | exact g_b32 | exact g_and32 | assumption | exact ⟨by omega, by omega⟩) (fun c5 => ?_) (fun c5 => ?_)
            · skip
              refine g_iinc_6 hc dX0_branchAt_68 rfl ?_
              refine g_goto (tgt := 6) hc dX0_branchAt_71 (by decide) ?_
              refine ih_6 _ _ ?_ ?_ ?_ ?_
              · omega
              · rw [h5, show (I (lb + 43) f - i).toNat = (I (lb + 43) f - (i + 1)).toNat + 1 by omega, g_bra]; first | rw [if_neg (by assumption)] | rw [if_pos (by assumption), if_neg (by omega), if_pos (by assumption)] | rw [if_pos (by assumption), hwz, if_neg (by omega)]
              · omega
              · omega
            · skip
              refine g_iload hc dX0_branchAt_65 rfl ?_
              refine g_iret hc hm dX0_branchAt_67 ?_
              exact g_postE (by rw [h5, show (I (lb + 43) f - i).toNat = (I (lb + 43) f - (i + 1)).toNat + 1 by omega, g_bra, if_pos (by assumption), hwz, if_pos (by omega)])
  refine lp_6 (I (lb + 43) f + 1).toNat _ _ ?_ ?_ ?_ (?_)
  · omega
  · rw [Int.sub_zero]
  · omega
  · omega
set_option maxHeartbeats 4000000 in
set_option maxRecDepth 100000 in
/-- X0_drawnBranch -/
theorem c_X0_drawnBranch (w : g_W) {I : g_I} {J : g_J} {R : g_R} {lb tx : Nat} (hR : g_rf w R lb tx) (hlb : g_life lb) {I2 : g_I} (hI : ∀ k j, g32 (I k j)) (hsI2 : g_off I I2) (hxI2 : ∀ k j, g32 (I2 k j)) (hC : g_cin I lb) {f : Int} (h1 : 0 ≤ f ∧ f < I lb 1) : g_Met w g_n I2 J R yX0_drawnBranch cX0_drawnBranch 4 (some .int) 5 0 0 [(gvr w 701), (gvI f)] (fun rr nn II JJ RR => g_rel w (some (gvI ((g_dbr I lb f (J 701)).1))) g_sT I2 JJ R rr nn II JJ RR ∧ JJ 701 = (g_dbr I lb f (J 701)).2 ∧ ∀ k : Nat, k ≠ 701 → JJ k = J k) := by
  refine g_intro (own := RX0) [some (gvr w 701), some (gvI f), none, none] (by decide +kernel) rfl (by decide) (Nat.le_of_ble_eq_true rfl) rfl (fun i v hv => g_args 2 i v hv rfl) (fun x hc hm => ?_)
  have hL := hC.1
  obtain ⟨hn0, hn1, hLs, hLf⟩ := id hL
  obtain ⟨-, hC1, hC2, hC3, hC4, hC5, hC6, hC7⟩ := id hC
  have hlb5 := hlb
  unfold g_life at hlb5
  have hdI2 : ∀ k : Nat, ¬ g_sT k → I2 k = I2 k := fun _ _ => rfl
  obtain ⟨hk2, hk1, hy, hit⟩ := hLf f h1.1 h1.2
  have hwin := g_wt_in (m := I 550 (4 + f)) (fun r h0 h1 => (hit r h0 h1).1) (I (lb + 43) f).toNat (by omega)
  have hbc := g_bc_in (a := I 550 (4 + f))
  have hd1 := @g_drw_in (J 701) (g_wt I lb f (I 550 (4 + f)) (I (lb + 43) f).toNat)
  have hd2 := @g_drw_in (J 701) (g_bc (I 550 (4 + f)))
  refine g_aldn hc dX0_drawnBranch_0 rfl ?_
  refine g_getRk hc lk_X0_15 ca_701 (rc_701_0 hR) dX0_drawnBranch_1 ?_
  refine g_getRvk hc lk_X0_35 ca_548 (rc_548_3 hR) dX0_drawnBranch_4 ?_
  refine g_astore_2 hc dX0_drawnBranch_7 rfl ?_
  refine g_aldn hc dX0_drawnBranch_8 rfl ?_
  refine g_getRk hc lk_X0_15 ca_701 (rc_701_0 hR) dX0_drawnBranch_9 ?_
  refine g_iload_n hc dX0_drawnBranch_12 rfl ?_
  refine g_V1r hc (c_X7_openMask w hR hxI2 (by omega)) my_X7_openMask mv_X7_openMask ca_548 rfl rfl lm_X0_58 rfl (by decide) (Nat.le_of_ble_eq_true rfl) hm dX0_drawnBranch_13 ?_
  rw [show I2 550 (4 + f) = I 550 (4 + f) from by rw [hsI2 550 (by decide)]]
  refine g_istore_3 hc dX0_drawnBranch_16 rfl ?_
  refine g_aldn hc dX0_drawnBranch_17 rfl ?_
  refine g_getRk hc lk_X0_61 (la_0 hlb) (rl_7 hR hlb) dX0_drawnBranch_18 ?_
  refine g_iload_n hc dX0_drawnBranch_21 rfl ?_
  refine g_ialde hc (la_42 hlb) (by decide) (by omega) (by omega) (congrFun (hsI2 _ (by omega)) _) dX0_drawnBranch_22 ?_
  refine g_iconst hc dX0_drawnBranch_23 ?_
  refine g_icmp_ne (tgt := 45) hc dX0_drawnBranch_24 (by decide) (by first | exact hI _ _ | exact hxI2 _ _ | exact hIa _ _ | exact hIb _ _ | exact g_b32 | exact g_and32 | assumption | exact ⟨by omega, by omega⟩) (by first | exact hI _ _ | exact hxI2 _ _ | exact hIa _ _ | exact hIb _ _ | exact g_b32 | exact g_and32 | assumption | exact ⟨by omega, by omega⟩) (fun c1 => ?_) (fun c1 => ?_)
  · skip
    refine g_aldn hc dX0_drawnBranch_45 rfl ?_
    refine g_getRk hc lk_X0_15 ca_701 (rc_701_0 hR) dX0_drawnBranch_46 ?_
    refine g_getRk hc lk_X0_74 ca_548 (rc_548_1 hR) dX0_drawnBranch_49 ?_
    refine g_getRk hc lk_X0_78 ca_549 (rc_549_0 hR) dX0_drawnBranch_52 ?_
    refine g_iconst hc dX0_drawnBranch_55 ?_
    refine g_ialde hc ca_550 (by decide) (by omega) (by omega) (congrFun (hsI2 _ (by decide)) _) dX0_drawnBranch_56 ?_
    refine g_iconst hc dX0_drawnBranch_57 ?_
    refine g_icmp_ne (tgt := 77) hc dX0_drawnBranch_58 (by decide) (by first | exact hI _ _ | exact hxI2 _ _ | exact hIa _ _ | exact hIb _ _ | exact g_b32 | exact g_and32 | assumption | exact ⟨by omega, by omega⟩) (by first | exact hI _ _ | exact hxI2 _ _ | exact hIa _ _ | exact hIb _ _ | exact g_b32 | exact g_and32 | assumption | exact ⟨by omega, by omega⟩) (fun c2 => ?_) (fun c2 => ?_)
    · skip
      refine g_aldn hc dX0_drawnBranch_77 rfl ?_
      refine g_getRk hc lk_X0_15 ca_701 (rc_701_0 hR) dX0_drawnBranch_78 ?_
      refine g_iload_n hc dX0_drawnBranch_81 rfl ?_
      refine g_iload_n hc dX0_drawnBranch_82 rfl ?_
      refine g_V2 hc (c_X7_chosen w hR hlb hI hsI2 hxI2 hC (by omega) (by first | exact hI _ _ | exact hxI2 _ _ | exact hIa _ _ | exact hIb _ _ | exact g_b32 | exact g_and32 | assumption | exact ⟨by omega, by omega⟩)) my_X7_chosen mv_X7_chosen ca_548 rfl rfl lm_X0_88 rfl (by decide) (Nat.le_of_ble_eq_true rfl) hm dX0_drawnBranch_83 (fun r3 n3 I3 J3 R3 hp3 => ?_)
      obtain ⟨rfl, rfl, hfI3, hxI3, rfl, rfl⟩ := hp3
      have hsI3 : g_off I I3 := fun k hk => (hfI3 k (fun q => hk (by omega))).trans (hsI2 k hk)
      have hdI3 : ∀ k : Nat, ¬ g_sT k → I3 k = I2 k := fun k hk => (hfI3 k (fun q => hk (by omega))).trans (hdI2 k hk)
      refine g_iret hc hm dX0_drawnBranch_86 ?_
      exact ⟨⟨by rw [g_dbr, if_neg (by assumption), if_neg (by assumption)], rfl, hdI3, hxI3, rfl, rfl⟩, by rw [g_dbr, if_neg (by assumption), if_neg (by assumption)], fun k hk => rfl⟩
    · skip
      refine g_aldn hc dX0_drawnBranch_61 rfl ?_
      refine g_iload_n hc dX0_drawnBranch_62 rfl ?_
      refine g_iload_n hc dX0_drawnBranch_63 rfl ?_
      refine g_aldn hc dX0_drawnBranch_64 rfl ?_
      refine g_iload_n hc dX0_drawnBranch_65 rfl ?_
      refine g_S1r hc (c_J6_bitCount_0f7a4 w) my_J6_bitCount_0f7a4 ms_J6_bitCount_0f7a4 lm_X0_83 rfl (by decide) (Nat.le_of_ble_eq_true rfl) hm dX0_drawnBranch_66 ?_
      refine g_V1 hc (c_X0_draw w hR hlb hI hsI2 hxI2 hC (by first | exact hI _ _ | exact hxI2 _ _ | exact hIa _ _ | exact hIb _ _ | exact g_b32 | exact g_and32 | assumption | exact ⟨by omega, by omega⟩)) my_X0_draw mv_X0_draw ca_701 rfl rfl lm_X0_67 rfl (by decide) (Nat.le_of_ble_eq_true rfl) hm dX0_drawnBranch_69 (fun r4 n4 I4 J4 R4 hp4 => ?_)
      obtain ⟨⟨rfl, rfl, hfI4, hxI4, -, rfl⟩, hJ4, hK4⟩ := hp4
      have hsI4 : g_off I I4 := fun k hk => (hfI4 k (fun q => hk (by omega))).trans (hsI2 k hk)
      have hdI4 : ∀ k : Nat, ¬ g_sT k → I4 k = I2 k := fun k hk => (hfI4 k (fun q => hk (by omega))).trans (hdI2 k hk)
      refine g_iconst hc dX0_drawnBranch_72 ?_
      refine g_V4r hc (c_X0_branchAt w hR hlb hI hsI4 hxI4 hC (by omega) (by omega) (by omega)) my_X0_branchAt mv_X0_branchAt ca_701 rfl rfl lm_X0_70 rfl (by decide) (Nat.le_of_ble_eq_true rfl) hm dX0_drawnBranch_73 ?_
      refine g_iret hc hm dX0_drawnBranch_76 ?_
      exact ⟨⟨by rw [g_dbr, if_neg (by assumption), if_pos (by assumption)], rfl, hdI4, hxI4, rfl, rfl⟩, by rw [g_dbr, if_neg (by assumption), if_pos (by assumption), hJ4], fun k hk => hK4 k hk⟩
  · skip
    refine g_aldn hc dX0_drawnBranch_27 rfl ?_
    refine g_iload_n hc dX0_drawnBranch_28 rfl ?_
    refine g_iload_n hc dX0_drawnBranch_29 rfl ?_
    refine g_aldn hc dX0_drawnBranch_30 rfl ?_
    refine g_aldn hc dX0_drawnBranch_31 rfl ?_
    refine g_iload_n hc dX0_drawnBranch_32 rfl ?_
    refine g_iload_n hc dX0_drawnBranch_33 rfl ?_
    refine g_V2r hc (c_X4_weights w hR hxI2 hlb (by omega) (by first | omega | (rw [hsI2 _ (g_nl hlb (by omega) (by omega))]; omega))) my_X4_weights mv_X4_weights (la_0 hlb) rfl rfl lm_X0_64 rfl (by decide) (Nat.le_of_ble_eq_true rfl) hm dX0_drawnBranch_34 ?_
    rw [show g_wt I2 lb f (I 550 (4 + f)) (I2 (lb + 43) f).toNat = g_wt I lb f (I 550 (4 + f)) (I (lb + 43) f).toNat from by rw [hsI2 _ (g_nl hlb (by omega) (by omega)), g_wt_cg hsI2 hlb (by omega) _ (by omega)]]
    refine g_V1 hc (c_X0_draw w hR hlb hI hsI2 hxI2 hC (by first | exact hI _ _ | exact hxI2 _ _ | exact hIa _ _ | exact hIb _ _ | exact g_b32 | exact g_and32 | assumption | exact ⟨by omega, by omega⟩)) my_X0_draw mv_X0_draw ca_701 rfl rfl lm_X0_67 rfl (by decide) (Nat.le_of_ble_eq_true rfl) hm dX0_drawnBranch_37 (fun r5 n5 I5 J5 R5 hp5 => ?_)
    obtain ⟨⟨rfl, rfl, hfI5, hxI5, -, rfl⟩, hJ5, hK5⟩ := hp5
    have hsI5 : g_off I I5 := fun k hk => (hfI5 k (fun q => hk (by omega))).trans (hsI2 k hk)
    have hdI5 : ∀ k : Nat, ¬ g_sT k → I5 k = I2 k := fun k hk => (hfI5 k (fun q => hk (by omega))).trans (hdI2 k hk)
    refine g_iconst hc dX0_drawnBranch_40 ?_
    refine g_V4r hc (c_X0_branchAt w hR hlb hI hsI5 hxI5 hC (by omega) (by omega) (by omega)) my_X0_branchAt mv_X0_branchAt ca_701 rfl rfl lm_X0_70 rfl (by decide) (Nat.le_of_ble_eq_true rfl) hm dX0_drawnBranch_41 ?_
    refine g_iret hc hm dX0_drawnBranch_44 ?_
    exact ⟨⟨by rw [g_dbr, if_pos (by assumption)], rfl, hdI5, hxI5, rfl, rfl⟩, by rw [g_dbr, if_pos (by assumption), hJ5], fun k hk => hK5 k hk⟩
set_option maxHeartbeats 4000000 in
set_option maxRecDepth 100000 in
/-- X0_drawnSelf -/
theorem c_X0_drawnSelf (w : g_W) {I : g_I} {J : g_J} {R : g_R} {lb tx : Nat} (hR : g_rf w R lb tx) (hlb : g_life lb) {I2 : g_I} (hI : ∀ k j, g32 (I k j)) (hsI2 : g_off I I2) (hxI2 : ∀ k j, g32 (I2 k j)) (hC : g_cin I lb)  : g_Met w g_n I2 J R yX0_drawnSelf cX0_drawnSelf 6 (some .int) 6 0 0 [(gvr w 701)] (fun rr nn II JJ RR => g_rel w (some (gvI ((g_dsf I lb (J 701)).1))) g_sT I2 JJ R rr nn II JJ RR ∧ JJ 701 = (g_dsf I lb (J 701)).2 ∧ ∀ k : Nat, k ≠ 701 → JJ k = J k) := by
  refine g_intro (own := RX0) [some (gvr w 701), none, none, none, none, none] (by decide +kernel) rfl (by decide) (Nat.le_of_ble_eq_true rfl) rfl (fun i v hv => g_args 5 i v hv rfl) (fun x hc hm => ?_)
  have hL := hC.1
  obtain ⟨hn0, hn1, hLs, hLf⟩ := id hL
  obtain ⟨-, hC1, hC2, hC3, hC4, hC5, hC6, hC7⟩ := id hC
  have hlb5 := hlb
  unfold g_life at hlb5
  have hdI2 : ∀ k : Nat, ¬ g_sT k → I2 k = I2 k := fun _ _ => rfl
  refine g_aldn hc dX0_drawnSelf_0 rfl ?_
  refine g_getRk hc lk_X0_15 ca_701 (rc_701_0 hR) dX0_drawnSelf_1 ?_
  refine g_getRvk hc lk_X0_35 ca_548 (rc_548_3 hR) dX0_drawnSelf_4 ?_
  refine g_astore_1 hc dX0_drawnSelf_7 rfl ?_
  refine g_aldn hc dX0_drawnSelf_8 rfl ?_
  refine g_getIe hc lk_X0_41 (la_0 hlb) 1 rfl (congrFun (hsI2 _ (by omega)) _) dX0_drawnSelf_9 ?_
  refine g_if_ne (tgt := 19) hc dX0_drawnSelf_12 (by decide) (by first | exact hI _ _ | exact hxI2 _ _ | exact hIa _ _ | exact hIb _ _ | exact g_b32 | exact g_and32 | assumption | exact ⟨by omega, by omega⟩) (fun c1 => ?_) (fun c1 => ?_)
  · skip
    refine g_bipush hc dX0_drawnSelf_19 (by decide +kernel) ?_
    refine g_istore_2 hc dX0_drawnSelf_21 rfl ?_
    refine g_iconst hc dX0_drawnSelf_22 ?_
    refine g_istore_3 hc dX0_drawnSelf_23 rfl ?_
    have lp_24 : ∀ (fu : Nat) (t i : Int) (Im : g_I) (Jm : g_J), 0 ≤ i ∧ i ≤ 6 → g_dsf I lb (J 701) = g_dsr I lb (6 - i).toNat (t, Jm 701) → -1 ≤ t ∧ t < 100 + I lb 1 ∨ t = 0 → g_off I Im → (∀ k j, g32 (Im k j)) → (∀ k : Nat, ¬ g_sT k → Im k = I2 k) → (∀ k : Nat, k ≠ 701 → Jm k = J k) → 6 - i < (fu : Int) → G w x (fun rr nn II JJ RR => g_rel w (some (gvI ((g_dsf I lb (J 701)).1))) g_sT I2 JJ R rr nn II JJ RR ∧ JJ 701 = (g_dsf I lb (J 701)).2 ∧ ∀ k : Nat, k ≠ 701 → JJ k = J k) 0 0 g_n Im Jm R 24 [some (gvr w 701), some (gvr w lb), some (gvI t), some (gvI i), none, none] [] := by
      intro fu
      induction fu with
      | zero => intro t i Im Jm h3 h4 h5 hsIm hxIm hdIm hKm hfu; exfalso; omega
      | succ fu ih =>
        intro t i Im Jm h3 h4 h5 hsIm hxIm hdIm hKm hfu
        have ih_24 := ih
        refine g_iload_n hc dX0_drawnSelf_24 rfl ?_
        refine g_bipush hc dX0_drawnSelf_25 (by decide +kernel) ?_
        refine g_icmp_ge (tgt := 80) hc dX0_drawnSelf_27 (by decide) (by first | exact hI _ _ | exact hxI2 _ _ | exact hIa _ _ | exact hIb _ _ | exact g_b32 | exact g_and32 | assumption | exact ⟨by omega, by omega⟩) (by first | exact hI _ _ | exact hxI2 _ _ | exact hIa _ _ | exact hIb _ _ | exact g_b32 | exact g_and32 | assumption | exact ⟨by omega, by omega⟩) (fun c2 => ?_) (fun c2 => ?_)
        · skip
          refine g_iload_n hc dX0_drawnSelf_80 rfl ?_
          refine g_iret hc hm dX0_drawnSelf_81 ?_
          have hE : g_dsf I lb (J 701) = (t, Jm 701) := by rw [h4]; first | exact g_dsr_e (by show ¬ (100 : Int) ≤ t; omega) | (rw [show (6 - i).toNat = 0 by omega]; rfl)
          exact ⟨⟨by rw [hE], rfl, hdIm, hxIm, rfl, rfl⟩, by rw [hE], hKm⟩
        · skip
          refine g_iload_n hc dX0_drawnSelf_30 rfl ?_
          refine g_bipush hc dX0_drawnSelf_31 (by decide +kernel) ?_
          refine g_icmp_lt (tgt := 80) hc dX0_drawnSelf_33 (by decide) (by first | exact hI _ _ | exact hxI2 _ _ | exact hIa _ _ | exact hIb _ _ | exact g_b32 | exact g_and32 | assumption | exact ⟨by omega, by omega⟩) (by first | exact hI _ _ | exact hxI2 _ _ | exact hIa _ _ | exact hIb _ _ | exact g_b32 | exact g_and32 | assumption | exact ⟨by omega, by omega⟩) (fun c3 => ?_) (fun c3 => ?_)
          · skip
            refine g_iload_n hc dX0_drawnSelf_80 rfl ?_
            refine g_iret hc hm dX0_drawnSelf_81 ?_
            have hE : g_dsf I lb (J 701) = (t, Jm 701) := by rw [h4]; first | exact g_dsr_e (by show ¬ (100 : Int) ≤ t; omega) | (rw [show (6 - i).toNat = 0 by omega]; rfl)
            exact ⟨⟨by rw [hE], rfl, hdIm, hxIm, rfl, rfl⟩, by rw [hE], hKm⟩
          · skip
            have hfo : 0 ≤ t - 100 ∧ t - 100 < I lb 1 := by omega
            obtain ⟨hk4, -, -, -⟩ := hLf _ hfo.1 hfo.2
            have hdi := g_dbr_in (x := Jm 701) hk4
            refine g_iload_n hc dX0_drawnSelf_36 rfl ?_
            refine g_bipush hc dX0_drawnSelf_37 (by decide +kernel) ?_
            refine g_isub hc dX0_drawnSelf_39 ?_
            refine g_istore_4 hc dX0_drawnSelf_40 rfl ?_
            refine g_aldn hc dX0_drawnSelf_42 rfl ?_
            refine g_iload hc dX0_drawnSelf_43 rfl ?_
            refine g_V1 hc (c_X0_drawnBranch w hR hlb hI hsIm hxIm hC (by omega)) my_X0_drawnBranch mv_X0_drawnBranch ca_701 rfl rfl lm_X0_46 rfl (by decide) (Nat.le_of_ble_eq_true rfl) hm dX0_drawnSelf_45 (fun r3 n3 I3 J3 R3 hp3 => ?_)
            obtain ⟨⟨rfl, rfl, hfI3, hxI3, -, rfl⟩, hJ3, hK3⟩ := hp3
            have hsI3 : g_off I I3 := fun k hk => (hfI3 k (fun q => hk (by omega))).trans (hsIm k hk)
            have hdI3 : ∀ k : Nat, ¬ g_sT k → I3 k = I2 k := fun k hk => (hfI3 k (fun q => hk (by omega))).trans (hdIm k hk)
            refine g_istore_5 hc dX0_drawnSelf_48 rfl ?_
            refine g_aldn hc dX0_drawnSelf_50 rfl ?_
            refine g_iload hc dX0_drawnSelf_51 rfl ?_
            refine g_iload hc dX0_drawnSelf_53 rfl ?_
            refine g_V2r hc (c_X4_hasBranch w hR hxI3 hlb (by first | exact hI _ _ | exact hxI2 _ _ | exact hIa _ _ | exact hIb _ _ | exact g_b32 | exact g_and32 | assumption | exact ⟨by omega, by omega⟩) (by first | exact hI _ _ | exact hxI2 _ _ | exact hIa _ _ | exact hIb _ _ | exact g_b32 | exact g_and32 | assumption | exact ⟨by omega, by omega⟩) (by first | omega | (rw [hsI3 _ (g_nl hlb (by omega) (by omega))]; omega))) my_X4_hasBranch mv_X4_hasBranch (la_0 hlb) rfl rfl lm_X0_50 rfl (by decide) (Nat.le_of_ble_eq_true rfl) hm dX0_drawnSelf_55 ?_
            rw [show I3 lb 1 = I lb 1 from by rw [hsI3 _ (g_nl hlb (by omega) (by omega))]]
            rw [show I3 (lb + 43) (t - 100) = I (lb + 43) (t - 100) from by rw [hsI3 _ (g_nl hlb (by omega) (by omega))]]
            refine g_ifb_eq (tgt := 72) hc dX0_drawnSelf_58 (by decide)  (fun c4 => ?_) (fun c4 => ?_)
            · skip
              refine g_iconst hc dX0_drawnSelf_72 ?_
              refine g_istore_2 hc dX0_drawnSelf_73 rfl ?_
              refine g_iinc_3 hc dX0_drawnSelf_74 rfl ?_
              refine g_goto (tgt := 24) hc dX0_drawnSelf_77 (by decide) ?_
              refine G_sub (L' := [some (gvr w 701), some (gvr w lb), some (gvI (-1)), some (gvI (i + 1)), none, none]) (show g_le _ _ from ⟨rfl, ⟨rfl, ⟨rfl, ⟨rfl, trivial⟩⟩⟩⟩) ?_
              refine ih_24 _ _ _ _ ?_ ?_ ?_ ?_ ?_ ?_ ?_ ?_
              · omega
              · rw [h4, show (6 - i).toNat = (6 - (i + 1)).toNat + 1 by omega, g_dsr, if_pos (show (100 : Int) ≤ t by omega)]; show g_dsr I lb _ (g_ds1 I lb t (Jm 701)) = _; rw [g_ds1, ← hJ3]; first | rw [if_pos (by assumption)] | rw [if_neg (by assumption)]
              · first | omega | (obtain ⟨-, -, -, hit⟩ := hLf _ hin.1.1 hin.1.2; obtain ⟨-, -, -, -, -, ht⟩ := hit _ hin.2.1 hin.2.2; omega)
              · exact hsI3
              · exact hxI3
              · exact hdI3
              · exact fun k hk => (hK3 k hk).trans (hKm k hk)
              · omega
            · skip
              have hin := c4
              refine g_aldn hc dX0_drawnSelf_61 rfl ?_
              refine g_iload hc dX0_drawnSelf_62 rfl ?_
              refine g_iload hc dX0_drawnSelf_64 rfl ?_
              refine g_V2r hc (c_X4_target w hR hxI3 hlb (by omega) (by omega)) my_X4_target mv_X4_target (la_0 hlb) rfl rfl lm_X0_54 rfl (by decide) (Nat.le_of_ble_eq_true rfl) hm dX0_drawnSelf_66 ?_
              rw [show I3 (lb + 127) ((t - 100) * 4 + ((g_dbr I lb (t - 100) (Jm 701)).1)) = I (lb + 127) ((t - 100) * 4 + ((g_dbr I lb (t - 100) (Jm 701)).1)) from by rw [hsI3 _ (g_nl hlb (by omega) (by omega))]]
              refine g_goto (tgt := 73) hc dX0_drawnSelf_69 (by decide) ?_
              refine g_istore_2 hc dX0_drawnSelf_73 rfl ?_
              refine g_iinc_3 hc dX0_drawnSelf_74 rfl ?_
              refine g_goto (tgt := 24) hc dX0_drawnSelf_77 (by decide) ?_
              refine G_sub (L' := [some (gvr w 701), some (gvr w lb), some (gvI (I (lb + 127) ((t - 100) * 4 + ((g_dbr I lb (t - 100) (Jm 701)).1)))), some (gvI (i + 1)), none, none]) (show g_le _ _ from ⟨rfl, ⟨rfl, ⟨rfl, ⟨rfl, trivial⟩⟩⟩⟩) ?_
              refine ih_24 _ _ _ _ ?_ ?_ ?_ ?_ ?_ ?_ ?_ ?_
              · omega
              · rw [h4, show (6 - i).toNat = (6 - (i + 1)).toNat + 1 by omega, g_dsr, if_pos (show (100 : Int) ≤ t by omega)]; show g_dsr I lb _ (g_ds1 I lb t (Jm 701)) = _; rw [g_ds1, ← hJ3]; first | rw [if_pos (by assumption)] | rw [if_neg (by assumption)]
              · first | omega | (obtain ⟨-, -, -, hit⟩ := hLf _ hin.1.1 hin.1.2; obtain ⟨-, -, -, -, -, ht⟩ := hit _ hin.2.1 hin.2.2; omega)
              · exact hsI3
              · exact hxI3
              · exact hdI3
              · exact fun k hk => (hK3 k hk).trans (hKm k hk)
              · omega
    refine lp_24 7 _ _ _ _ ?_ ?_ ?_ ?_ ?_ ?_ ?_ (?_)
    · omega
    · rw [g_dsf]; first | rw [if_pos (by assumption)]; rfl | rw [if_neg (by assumption)]; rfl
    · omega
    · exact hsI2
    · exact hxI2
    · exact hdI2
    · intro k _; rfl
    · decide
  · skip
    refine g_iconst hc dX0_drawnSelf_15 ?_
    refine g_goto (tgt := 21) hc dX0_drawnSelf_16 (by decide) ?_
    refine g_istore_2 hc dX0_drawnSelf_21 rfl ?_
    refine g_iconst hc dX0_drawnSelf_22 ?_
    refine g_istore_3 hc dX0_drawnSelf_23 rfl ?_
    have lp_24 : ∀ (fu : Nat) (t i : Int) (Im : g_I) (Jm : g_J), 0 ≤ i ∧ i ≤ 6 → g_dsf I lb (J 701) = g_dsr I lb (6 - i).toNat (t, Jm 701) → -1 ≤ t ∧ t < 100 + I lb 1 ∨ t = 0 → g_off I Im → (∀ k j, g32 (Im k j)) → (∀ k : Nat, ¬ g_sT k → Im k = I2 k) → (∀ k : Nat, k ≠ 701 → Jm k = J k) → 6 - i < (fu : Int) → G w x (fun rr nn II JJ RR => g_rel w (some (gvI ((g_dsf I lb (J 701)).1))) g_sT I2 JJ R rr nn II JJ RR ∧ JJ 701 = (g_dsf I lb (J 701)).2 ∧ ∀ k : Nat, k ≠ 701 → JJ k = J k) 0 0 g_n Im Jm R 24 [some (gvr w 701), some (gvr w lb), some (gvI t), some (gvI i), none, none] [] := by
      intro fu
      induction fu with
      | zero => intro t i Im Jm h3 h4 h5 hsIm hxIm hdIm hKm hfu; exfalso; omega
      | succ fu ih =>
        intro t i Im Jm h3 h4 h5 hsIm hxIm hdIm hKm hfu
        have ih_24 := ih
        refine g_iload_n hc dX0_drawnSelf_24 rfl ?_
        refine g_bipush hc dX0_drawnSelf_25 (by decide +kernel) ?_
        refine g_icmp_ge (tgt := 80) hc dX0_drawnSelf_27 (by decide) (by first | exact hI _ _ | exact hxI2 _ _ | exact hIa _ _ | exact hIb _ _ | exact g_b32 | exact g_and32 | assumption | exact ⟨by omega, by omega⟩) (by first | exact hI _ _ | exact hxI2 _ _ | exact hIa _ _ | exact hIb _ _ | exact g_b32 | exact g_and32 | assumption | exact ⟨by omega, by omega⟩) (fun c5 => ?_) (fun c5 => ?_)
        · skip
          refine g_iload_n hc dX0_drawnSelf_80 rfl ?_
          refine g_iret hc hm dX0_drawnSelf_81 ?_
          have hE : g_dsf I lb (J 701) = (t, Jm 701) := by rw [h4]; first | exact g_dsr_e (by show ¬ (100 : Int) ≤ t; omega) | (rw [show (6 - i).toNat = 0 by omega]; rfl)
          exact ⟨⟨by rw [hE], rfl, hdIm, hxIm, rfl, rfl⟩, by rw [hE], hKm⟩
        · skip
          refine g_iload_n hc dX0_drawnSelf_30 rfl ?_
          refine g_bipush hc dX0_drawnSelf_31 (by decide +kernel) ?_
          refine g_icmp_lt (tgt := 80) hc dX0_drawnSelf_33 (by decide) (by first | exact hI _ _ | exact hxI2 _ _ | exact hIa _ _ | exact hIb _ _ | exact g_b32 | exact g_and32 | assumption | exact ⟨by omega, by omega⟩) (by first | exact hI _ _ | exact hxI2 _ _ | exact hIa _ _ | exact hIb _ _ | exact g_b32 | exact g_and32 | assumption | exact ⟨by omega, by omega⟩) (fun c6 => ?_) (fun c6 => ?_)
          · skip
            refine g_iload_n hc dX0_drawnSelf_80 rfl ?_
            refine g_iret hc hm dX0_drawnSelf_81 ?_
            have hE : g_dsf I lb (J 701) = (t, Jm 701) := by rw [h4]; first | exact g_dsr_e (by show ¬ (100 : Int) ≤ t; omega) | (rw [show (6 - i).toNat = 0 by omega]; rfl)
            exact ⟨⟨by rw [hE], rfl, hdIm, hxIm, rfl, rfl⟩, by rw [hE], hKm⟩
          · skip
            have hfo : 0 ≤ t - 100 ∧ t - 100 < I lb 1 := by omega
            obtain ⟨hk4, -, -, -⟩ := hLf _ hfo.1 hfo.2
            have hdi := g_dbr_in (x := Jm 701) hk4
            refine g_iload_n hc dX0_drawnSelf_36 rfl ?_
            refine g_bipush hc dX0_drawnSelf_37 (by decide +kernel) ?_
            refine g_isub hc dX0_drawnSelf_39 ?_
            refine g_istore_4 hc dX0_drawnSelf_40 rfl ?_
            refine g_aldn hc dX0_drawnSelf_42 rfl ?_
            refine g_iload hc dX0_drawnSelf_43 rfl ?_
            refine g_V1 hc (c_X0_drawnBranch w hR hlb hI hsIm hxIm hC (by omega)) my_X0_drawnBranch mv_X0_drawnBranch ca_701 rfl rfl lm_X0_46 rfl (by decide) (Nat.le_of_ble_eq_true rfl) hm dX0_drawnSelf_45 (fun r4 n4 I4 J4 R4 hp4 => ?_)
            obtain ⟨⟨rfl, rfl, hfI4, hxI4, -, rfl⟩, hJ4, hK4⟩ := hp4
            have hsI4 : g_off I I4 := fun k hk => (hfI4 k (fun q => hk (by omega))).trans (hsIm k hk)
            have hdI4 : ∀ k : Nat, ¬ g_sT k → I4 k = I2 k := fun k hk => (hfI4 k (fun q => hk (by omega))).trans (hdIm k hk)
            refine g_istore_5 hc dX0_drawnSelf_48 rfl ?_
            refine g_aldn hc dX0_drawnSelf_50 rfl ?_
            refine g_iload hc dX0_drawnSelf_51 rfl ?_
            refine g_iload hc dX0_drawnSelf_53 rfl ?_
            refine g_V2r hc (c_X4_hasBranch w hR hxI4 hlb (by first | exact hI _ _ | exact hxI2 _ _ | exact hIa _ _ | exact hIb _ _ | exact g_b32 | exact g_and32 | assumption | exact ⟨by omega, by omega⟩) (by first | exact hI _ _ | exact hxI2 _ _ | exact hIa _ _ | exact hIb _ _ | exact g_b32 | exact g_and32 | assumption | exact ⟨by omega, by omega⟩) (by first | omega | (rw [hsI4 _ (g_nl hlb (by omega) (by omega))]; omega))) my_X4_hasBranch mv_X4_hasBranch (la_0 hlb) rfl rfl lm_X0_50 rfl (by decide) (Nat.le_of_ble_eq_true rfl) hm dX0_drawnSelf_55 ?_
            rw [show I4 lb 1 = I lb 1 from by rw [hsI4 _ (g_nl hlb (by omega) (by omega))]]
            rw [show I4 (lb + 43) (t - 100) = I (lb + 43) (t - 100) from by rw [hsI4 _ (g_nl hlb (by omega) (by omega))]]
            refine g_ifb_eq (tgt := 72) hc dX0_drawnSelf_58 (by decide)  (fun c7 => ?_) (fun c7 => ?_)
            · skip
              refine g_iconst hc dX0_drawnSelf_72 ?_
              refine g_istore_2 hc dX0_drawnSelf_73 rfl ?_
              refine g_iinc_3 hc dX0_drawnSelf_74 rfl ?_
              refine g_goto (tgt := 24) hc dX0_drawnSelf_77 (by decide) ?_
              refine G_sub (L' := [some (gvr w 701), some (gvr w lb), some (gvI (-1)), some (gvI (i + 1)), none, none]) (show g_le _ _ from ⟨rfl, ⟨rfl, ⟨rfl, ⟨rfl, trivial⟩⟩⟩⟩) ?_
              refine ih_24 _ _ _ _ ?_ ?_ ?_ ?_ ?_ ?_ ?_ ?_
              · omega
              · rw [h4, show (6 - i).toNat = (6 - (i + 1)).toNat + 1 by omega, g_dsr, if_pos (show (100 : Int) ≤ t by omega)]; show g_dsr I lb _ (g_ds1 I lb t (Jm 701)) = _; rw [g_ds1, ← hJ4]; first | rw [if_pos (by assumption)] | rw [if_neg (by assumption)]
              · first | omega | (obtain ⟨-, -, -, hit⟩ := hLf _ hin.1.1 hin.1.2; obtain ⟨-, -, -, -, -, ht⟩ := hit _ hin.2.1 hin.2.2; omega)
              · exact hsI4
              · exact hxI4
              · exact hdI4
              · exact fun k hk => (hK4 k hk).trans (hKm k hk)
              · omega
            · skip
              have hin := c7
              refine g_aldn hc dX0_drawnSelf_61 rfl ?_
              refine g_iload hc dX0_drawnSelf_62 rfl ?_
              refine g_iload hc dX0_drawnSelf_64 rfl ?_
              refine g_V2r hc (c_X4_target w hR hxI4 hlb (by omega) (by omega)) my_X4_target mv_X4_target (la_0 hlb) rfl rfl lm_X0_54 rfl (by decide) (Nat.le_of_ble_eq_true rfl) hm dX0_drawnSelf_66 ?_
              rw [show I4 (lb + 127) ((t - 100) * 4 + ((g_dbr I lb (t - 100) (Jm 701)).1)) = I (lb + 127) ((t - 100) * 4 + ((g_dbr I lb (t - 100) (Jm 701)).1)) from by rw [hsI4 _ (g_nl hlb (by omega) (by omega))]]
              refine g_goto (tgt := 73) hc dX0_drawnSelf_69 (by decide) ?_
              refine g_istore_2 hc dX0_drawnSelf_73 rfl ?_
              refine g_iinc_3 hc dX0_drawnSelf_74 rfl ?_
              refine g_goto (tgt := 24) hc dX0_drawnSelf_77 (by decide) ?_
              refine G_sub (L' := [some (gvr w 701), some (gvr w lb), some (gvI (I (lb + 127) ((t - 100) * 4 + ((g_dbr I lb (t - 100) (Jm 701)).1)))), some (gvI (i + 1)), none, none]) (show g_le _ _ from ⟨rfl, ⟨rfl, ⟨rfl, ⟨rfl, trivial⟩⟩⟩⟩) ?_
              refine ih_24 _ _ _ _ ?_ ?_ ?_ ?_ ?_ ?_ ?_ ?_
              · omega
              · rw [h4, show (6 - i).toNat = (6 - (i + 1)).toNat + 1 by omega, g_dsr, if_pos (show (100 : Int) ≤ t by omega)]; show g_dsr I lb _ (g_ds1 I lb t (Jm 701)) = _; rw [g_ds1, ← hJ4]; first | rw [if_pos (by assumption)] | rw [if_neg (by assumption)]
              · first | omega | (obtain ⟨-, -, -, hit⟩ := hLf _ hin.1.1 hin.1.2; obtain ⟨-, -, -, -, -, ht⟩ := hit _ hin.2.1 hin.2.2; omega)
              · exact hsI4
              · exact hxI4
              · exact hdI4
              · exact fun k hk => (hK4 k hk).trans (hKm k hk)
              · omega
    refine lp_24 7 _ _ _ _ ?_ ?_ ?_ ?_ ?_ ?_ ?_ (?_)
    · omega
    · rw [g_dsf]; first | rw [if_pos (by assumption)]; rfl | rw [if_neg (by assumption)]; rfl
    · omega
    · exact hsI2
    · exact hxI2
    · exact hdI2
    · intro k _; rfl
    · decide
set_option maxHeartbeats 4000000 in
set_option maxRecDepth 100000 in
/-- X0_howMany -/
theorem c_X0_howMany (w : g_W) {I : g_I} {J : g_J} {R : g_R} {lb tx : Nat} (hR : g_rf w R lb tx) (hlb : g_life lb) {I2 : g_I} (hI : ∀ k j, g32 (I k j)) (hsI2 : g_off I I2) (hxI2 : ∀ k j, g32 (I2 k j)) (hC : g_cin I lb) {m seed s : Int} (h1 : 0 ≤ m ∧ m ≤ 99) (h2 : g32 s) : g_Met w g_n I2 J R yX0_howMany cX0_howMany 7 (some .int) 7 0 0 [(gvr w 701), (gvI m), (gvL seed), (gvI s)] (fun rr nn II JJ RR => g_rel w (some (gvI ((g_hmn I lb s seed m.toNat).1))) g_sT I2 JJ R rr nn II JJ RR ∧ JJ 701 = (g_hmn I lb s seed m.toNat).2 ∧ ∀ k : Nat, k ≠ 701 → JJ k = J k) := by
  refine g_intro (own := RX0) [some (gvr w 701), some (gvI m), some (gvL seed), none, some (gvI s), none, none] (by decide +kernel) rfl (by decide) (Nat.le_of_ble_eq_true rfl) rfl (fun i v hv => g_args 2 i v hv rfl) (fun x hc hm => ?_)
  have hL := hC.1
  obtain ⟨hn0, hn1, hLs, hLf⟩ := id hL
  obtain ⟨-, hC1, hC2, hC3, hC4, hC5, hC6, hC7⟩ := id hC
  have hlb5 := hlb
  unfold g_life at hlb5
  have hdI2 : ∀ k : Nat, ¬ g_sT k → I2 k = I2 k := fun _ _ => rfl
  refine g_aldn hc dX0_howMany_0 rfl ?_
  refine g_lload_n hc dX0_howMany_1 rfl ?_
  obtain ⟨J4, hJ4⟩ : ∃ J4, J4 = g_upJ J 701 seed := ⟨_, rfl⟩
  refine g_putLe (J2 := J4) hc lk_X0_23 ca_701 g_kd0 hJ4.symm dX0_howMany_2 ?_
  have hJ1 : J4 701 = seed := by rw [hJ4]; exact if_pos rfl
  have hJ2 : ∀ k : Nat, k ≠ 701 → J4 k = J k := fun k hk => by rw [hJ4]; exact if_neg hk
  refine g_iconst hc dX0_howMany_5 ?_
  refine g_istore_5 hc dX0_howMany_6 rfl ?_
  refine g_iconst hc dX0_howMany_8 ?_
  refine g_istore_6 hc dX0_howMany_9 rfl ?_
  have lp_11 : ∀ (fu : Nat) (a i : Int) (Im : g_I) (Jm : g_J), 0 ≤ i ∧ i ≤ m → g_hmn I lb s seed i.toNat = (a, Jm 701) → g_off I Im → (∀ k j, g32 (Im k j)) → (∀ k : Nat, ¬ g_sT k → Im k = I2 k) → (∀ k : Nat, k ≠ 701 → Jm k = J k) → m - i < (fu : Int) → G w x (fun rr nn II JJ RR => g_rel w (some (gvI ((g_hmn I lb s seed m.toNat).1))) g_sT I2 JJ R rr nn II JJ RR ∧ JJ 701 = (g_hmn I lb s seed m.toNat).2 ∧ ∀ k : Nat, k ≠ 701 → JJ k = J k) 0 0 g_n Im Jm R 11 [some (gvr w 701), some (gvI m), some (gvL seed), none, some (gvI s), some (gvI a), some (gvI i)] [] := by
    intro fu
    induction fu with
    | zero => intro a i Im Jm h3 h4 hsIm hxIm hdIm hKm hfu; exfalso; omega
    | succ fu ih =>
      intro a i Im Jm h3 h4 hsIm hxIm hdIm hKm hfu
      have ih_11 := ih
      refine g_iload hc dX0_howMany_11 rfl ?_
      refine g_iload_n hc dX0_howMany_13 rfl ?_
      refine g_icmp_ge (tgt := 42) hc dX0_howMany_14 (by decide) (by first | exact hI _ _ | exact hxI2 _ _ | exact hIa _ _ | exact hIb _ _ | exact g_b32 | exact g_and32 | assumption | exact ⟨by omega, by omega⟩) (by first | exact hI _ _ | exact hxI2 _ _ | exact hIa _ _ | exact hIb _ _ | exact g_b32 | exact g_and32 | assumption | exact ⟨by omega, by omega⟩) (fun c1 => ?_) (fun c1 => ?_)
      · skip
        refine g_iload hc dX0_howMany_42 rfl ?_
        refine g_iret hc hm dX0_howMany_44 ?_
        have hE : g_hmn I lb s seed m.toNat = (a, Jm 701) := by rw [show m.toNat = i.toNat by omega, h4]
        exact ⟨⟨by rw [hE], rfl, hdIm, hxIm, rfl, rfl⟩, by rw [hE], hKm⟩
      · skip
        have hdb := g_dsf_in (x := Jm 701) hL
        refine g_iload hc dX0_howMany_17 rfl ?_
        refine g_aldn hc dX0_howMany_19 rfl ?_
        refine g_V0 hc (c_X0_drawnSelf w hR hlb hI hsIm hxIm hC) my_X0_drawnSelf mv_X0_drawnSelf ca_701 rfl rfl lm_X0_27 rfl (by decide) (Nat.le_of_ble_eq_true rfl) hm dX0_howMany_20 (fun r5 n5 I5 J5 R5 hp5 => ?_)
        obtain ⟨⟨rfl, rfl, hfI5, hxI5, -, rfl⟩, hJ5, hK5⟩ := hp5
        have hsI5 : g_off I I5 := fun k hk => (hfI5 k (fun q => hk (by omega))).trans (hsIm k hk)
        have hdI5 : ∀ k : Nat, ¬ g_sT k → I5 k = I2 k := fun k hk => (hfI5 k (fun q => hk (by omega))).trans (hdIm k hk)
        refine g_iload hc dX0_howMany_23 rfl ?_
        refine g_icmp_ne (tgt := 32) hc dX0_howMany_25 (by decide) (by exact ⟨by omega, by omega⟩) h2 (fun c2 => ?_) (fun c2 => ?_)
        · skip
          refine g_iconst hc dX0_howMany_32 ?_
          refine g_iadd hc dX0_howMany_33 ?_
          refine g_istore_5 hc dX0_howMany_34 rfl ?_
          refine g_iinc_6 hc dX0_howMany_36 rfl ?_
          refine g_goto (tgt := 11) hc dX0_howMany_39 (by decide) ?_
          refine ih_11 _ _ _ _ ?_ ?_ ?_ ?_ ?_ ?_ ?_
          · omega
          · rw [g_hmn_i h3.1, h4]; show (a + (if (g_dsf I lb (Jm 701)).1 = s then 1 else 0), (g_dsf I lb (Jm 701)).2) = _; rw [← hJ5]; first | rw [if_pos (by assumption)] | rw [if_neg (by assumption), Int.add_zero] | rw [if_neg (by assumption)]
          · exact hsI5
          · exact hxI5
          · exact hdI5
          · exact fun k hk => (hK5 k hk).trans (hKm k hk)
          · omega
        · skip
          refine g_iconst hc dX0_howMany_28 ?_
          refine g_goto (tgt := 33) hc dX0_howMany_29 (by decide) ?_
          refine g_iadd hc dX0_howMany_33 ?_
          refine g_istore_5 hc dX0_howMany_34 rfl ?_
          refine g_iinc_6 hc dX0_howMany_36 rfl ?_
          refine g_goto (tgt := 11) hc dX0_howMany_39 (by decide) ?_
          refine ih_11 _ _ _ _ ?_ ?_ ?_ ?_ ?_ ?_ ?_
          · omega
          · rw [g_hmn_i h3.1, h4]; show (a + (if (g_dsf I lb (Jm 701)).1 = s then 1 else 0), (g_dsf I lb (Jm 701)).2) = _; rw [← hJ5]; first | rw [if_pos (by assumption)] | rw [if_neg (by assumption), Int.add_zero] | rw [if_neg (by assumption)]
          · exact hsI5
          · exact hxI5
          · exact hdI5
          · exact fun k hk => (hK5 k hk).trans (hKm k hk)
          · omega
  refine lp_11 (m + 1).toNat _ _ _ _ ?_ ?_ ?_ ?_ ?_ ?_ (?_)
  · omega
  · rw [← hJ1]; rfl
  · exact hsI2
  · exact hxI2
  · exact hdI2
  · exact hJ2
  · omega
set_option maxHeartbeats 4000000 in
set_option maxRecDepth 100000 in
/-- X0_putBy -/
theorem c_X0_putBy (w : g_W) {I : g_I} {J : g_J} {R : g_R} {lb tx : Nat} (hR : g_rf w R lb tx) (hlb : g_life lb) (hI : ∀ k j, g32 (I k j)) (hC : g_cin I lb) {seed : Int} (h1 : 0 ≤ I 701 2 ∧ I 701 2 ≤ 60) : g_Met w g_n I J R yX0_putBy cX0_putBy 3 (some .int) 7 0 0 [(gvr w 701), (gvL seed)] (fun rr nn II JJ RR => g_rel w (some (gvI (if 60 ≤ I 701 2 then -1 else (g_dsf I lb seed).1))) g_sT (if 60 ≤ I 701 2 then I else g_ptb I (g_dsf I lb seed).1) JJ R rr nn II JJ RR ∧ ∀ k : Nat, k ≠ 701 → JJ k = J k) := by
  refine g_intro (own := RX0) [some (gvr w 701), some (gvL seed), none] (by decide +kernel) rfl (by decide) (Nat.le_of_ble_eq_true rfl) rfl (fun i v hv => g_args 0 i v hv rfl) (fun x hc hm => ?_)
  have hsI : g_off I I := g_off_rf
  have hxI := hI
  have hL := hC.1
  have hdb := g_dsf_in (x := seed) hL
  have hn2 := hL.2.1
  have hn1 := hL.1
  refine g_aldn hc dX0_putBy_0 rfl ?_
  refine g_getI' hc lk_X0_19 ca_701 2 rfl dX0_putBy_1 ?_
  refine g_bipush hc dX0_putBy_4 (by decide +kernel) ?_
  refine g_icmp_lt (tgt := 11) hc dX0_putBy_6 (by decide) (by first | exact hI _ _ | exact hxI2 _ _ | exact hIa _ _ | exact hIb _ _ | exact g_b32 | exact g_and32 | assumption | exact ⟨by omega, by omega⟩) (by first | exact hI _ _ | exact hxI2 _ _ | exact hIa _ _ | exact hIb _ _ | exact g_b32 | exact g_and32 | assumption | exact ⟨by omega, by omega⟩) (fun c1 => ?_) (fun c1 => ?_)
  · skip
    refine g_aldn hc dX0_putBy_11 rfl ?_
    refine g_lload_n hc dX0_putBy_12 rfl ?_
    obtain ⟨J4, hJ4⟩ : ∃ J4, J4 = g_upJ J 701 seed := ⟨_, rfl⟩
    refine g_putLe (J2 := J4) hc lk_X0_23 ca_701 g_kd0 hJ4.symm dX0_putBy_13 ?_
    have hJ1 : J4 701 = seed := by rw [hJ4]; exact if_pos rfl
    have hJ2 : ∀ k : Nat, k ≠ 701 → J4 k = J k := fun k hk => by rw [hJ4]; exact if_neg hk
    refine g_aldn hc dX0_putBy_16 rfl ?_
    refine g_getRk hc lk_X0_9 ca_701 (rc_701_1 hR) dX0_putBy_17 ?_
    refine g_aldn hc dX0_putBy_20 rfl ?_
    refine g_getI' hc lk_X0_19 ca_701 2 rfl dX0_putBy_21 ?_
    refine g_aldn hc dX0_putBy_24 rfl ?_
    refine g_V0 hc (c_X0_drawnSelf w hR hlb hI hsI hxI hC) my_X0_drawnSelf mv_X0_drawnSelf ca_701 rfl rfl lm_X0_27 rfl (by decide) (Nat.le_of_ble_eq_true rfl) hm dX0_putBy_25 (fun r5 n5 I5 J5 R5 hp5 => ?_)
    obtain ⟨⟨rfl, rfl, hfI5, hxI5, -, rfl⟩, hJ5, hK5⟩ := hp5
    have e0 : I5 701 2 = I 701 2 := by rw [hfI5 _ (by decide)]
    refine g_iast' hc ca_702 (by decide) (by omega) (by omega)  dX0_putBy_28 (fun I6 hI6 => ?_)
    rw [hJ1] at hI6
    have e1 : I6 701 2 = I 701 2 := by rw [hI6, g_up_k (by decide), hfI5 _ (by decide)]
    have hz1 : ∀ k j, g32 (I6 k j) := by rw [hI6]; exact g_up32 hxI5 ⟨by omega, by omega⟩
    have hz2 : ∀ k : Nat, ¬ g_sT k → I6 k = g_up I 702 (I 701 2) (g_dsf I lb seed).1 k := fun k hk => by
      rw [hI6]; funext j; show (if _ then _ else I5 k j) = (if _ then _ else I k j); rw [hfI5 k hk]
    refine g_aldn hc dX0_putBy_29 rfl ?_
    refine g_dup hc dX0_putBy_30 rfl ?_
    refine g_getI' hc lk_X0_19 ca_701 2 rfl dX0_putBy_31 ?_
    refine g_iconst hc dX0_putBy_34 ?_
    refine g_iadd hc dX0_putBy_35 ?_
    refine g_putI' hc lk_X0_19 ca_701 2 rfl dX0_putBy_36 (fun I7 hI7 => ?_)
    have e2 : I7 701 2 - 1 = I 701 2 := by rw [hI7, g_up_s, e1]; omega
    have e3 : I7 702 (I 701 2) = (g_dsf I lb seed).1 := by rw [hI7, g_up_k (by decide), hI6, g_up_s]
    rw [e1] at hI7
    have hz3 : ∀ k j, g32 (I7 k j) := by rw [hI7]; exact g_up32 hz1 ⟨by omega, by omega⟩
    have hz4 : ∀ k : Nat, ¬ g_sT k → I7 k = g_ptb I (g_dsf I lb seed).1 k := fun k hk => by
      rw [hI7]; funext j; show (if _ then _ else I6 k j) = (if _ then _ else g_up I 702 (I 701 2) (g_dsf I lb seed).1 k j); rw [hz2 k hk]
    refine g_aldn hc dX0_putBy_39 rfl ?_
    refine g_getRk hc lk_X0_9 ca_701 (rc_701_1 hR) dX0_putBy_40 ?_
    refine g_aldn hc dX0_putBy_43 rfl ?_
    refine g_getI' hc lk_X0_19 ca_701 2 rfl dX0_putBy_44 ?_
    refine g_iconst hc dX0_putBy_47 ?_
    refine g_isub hc dX0_putBy_48 ?_
    refine g_iald hc ca_702 (by decide) (by omega) (by omega) dX0_putBy_49 ?_
    refine g_iret hc hm dX0_putBy_50 ?_
    exact ⟨⟨by rw [if_neg (by omega), e2, e3], rfl, fun k hk => by rw [if_neg (by omega)]; exact hz4 k hk, hz3, rfl, rfl⟩, fun k hk => (hK5 k hk).trans (hJ2 k hk)⟩
  · skip
    refine g_iconst hc dX0_putBy_9 ?_
    refine g_iret hc hm dX0_putBy_10 ?_
    exact ⟨⟨by rw [if_pos (by omega)], rfl, fun k hk => by rw [if_pos (by omega)], hI, rfl, rfl⟩, fun k hk => rfl⟩
