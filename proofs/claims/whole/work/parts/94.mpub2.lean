theorem x_hs {I M : g_I} {lb : Nat} (h : q_rel I lb M) {s k : Int} (h1 : 0 ≤ s ∧ s < I lb 0) (hk : 0 ≤ k ∧ k ≤ 2) : -1000300 ≤ I (lb + 2 + s.toNat) k ∧ I (lb + 2 + s.toNat) k ≤ 1000300 := by
  obtain ⟨-, -, hLs, -⟩ := q_lok h
  obtain ⟨-, -, a0, a1, a2, a3, a4, a5, -⟩ := hLs s h1.1 h1.2
  rcases (show k = 0 ∨ k = 1 ∨ k = 2 by omega) with rfl | rfl | rfl <;> omega
set_option maxHeartbeats 4000000 in
set_option maxRecDepth 100000 in
/-- X13_mean -/
theorem c_X13_mean (w : g_W) {I : g_I} {J : g_J} {R : g_R} {lb tx : Nat} (hR : g_rf w R lb tx) {M : g_I} (hmM : q_rel I lb M) {k : Int} (g1 : g32 k) : g_Met w g_n M J R yX13_mean cX13_mean 5 (some .int) 38 0 0 [(gvr w 703), (gvI k)] (x_rel w (some (gvI (if 0 ≤ I 0 12 ∧ 0 ≤ k ∧ k ≤ 3 then g_avg I lb k else -2000000000))) x_a M J lb) := by
  refine g_intro (own := RX13) [some (gvr w 703), some (gvI k), none, none, none] (by decide +kernel) rfl (by decide) (Nat.le_of_ble_eq_true rfl) rfl (fun i v hv => g_args 3 i v hv rfl) (fun x hc hm => ?_)
  have hfM : ∀ (k : Nat) (j : Int), ¬ x_a k j → M k j = M k j := fun _ _ _ => rfl
  have hI := hmM.gi
  have hTb := q_b1 hmM
  have hLv := hmM.lv
  have hC := hmM.cin
  have hL := hC.1
  obtain ⟨hn0, hn1, hLs, hLf⟩ := id hL
  obtain ⟨-, hC1, hC2, hC3, hC4, hC5, hC6, hC7⟩ := id hC
  have hN0 := q_n0 hmM
  refine g_aldn hc dX13_mean_0 rfl ?_
  refine g_iconst hc dX13_mean_1 ?_
  refine g_putI' hc lk_X13_102 ca_703 0 rfl dX13_mean_2 (fun I3 hI3 => ?_)
  have hmI3 : q_rel I lb I3 := by rw [hI3]; exact q_up hmM (by unfold x_a; omega) (by first | exact hI _ _ | exact hmM.g _ _ | exact g_b32 | exact g_and32 | exact g_or32 | exact g_shl32 | assumption | exact ⟨by omega, by omega⟩)
  have hfI3 : ∀ (k : Nat) (j : Int), ¬ x_a k j → I3 k j = M k j := fun k j hk => by rw [hI3]; exact (g_up_n (by unfold x_a at hk; omega)).trans (hfM k j hk)
  refine g_aldn hc dX13_mean_5 rfl ?_
  refine g_getIe hc lk_X13_52 ca_703 24 rfl (show I3 703 24 = I 0 12 from hmI3.tab) dX13_mean_6 ?_
  refine g_iconst hc dX13_mean_9 ?_
  refine g_icmp_eq (tgt := 25) hc dX13_mean_10 (by decide) (by first | exact hI _ _ | exact hxI2 _ _ | exact hIa _ _ | exact hIb _ _ | exact g_b32 | exact g_and32 | assumption | exact ⟨by omega, by omega⟩) (by first | exact hI _ _ | exact hxI2 _ _ | exact hIa _ _ | exact hIb _ _ | exact g_b32 | exact g_and32 | assumption | exact ⟨by omega, by omega⟩) (fun c1 => ?_) (fun c1 => ?_)
  · skip
    refine g_ldcw (k := (-2000000000)) hc dX13_mean_25 _ lc_X13_376 (by decide +kernel) ?_
    refine g_iret hc hm dX13_mean_28 ?_
    exact x_end (by rw [if_neg (by omega)]) hfI3 hmI3.g hR
  · skip
    refine g_iload_n hc dX13_mean_13 rfl ?_
    refine g_i2l hc dX13_mean_14 (by first | exact hI _ _ | exact hxI2 _ _ | exact hIa _ _ | exact hIb _ _ | exact g_b32 | exact g_and32 | assumption | exact ⟨by omega, by omega⟩) ?_
    refine g_lconst hc dX13_mean_15 0 (by decide +kernel) ?_
    refine g_ldc2 (k := 3) hc dX13_mean_16 _ lc_X13_346 (by decide +kernel) ?_
    refine g_S3r hc (c_X13_isIn w (by first | exact hI _ _ | exact hmM.g _ _ | exact g_b32 | exact g_and32 | exact g_or32 | exact g_shl32 | assumption | exact ⟨by omega, by omega⟩) (by first | exact hI _ _ | exact hmM.g _ _ | exact g_b32 | exact g_and32 | exact g_or32 | exact g_shl32 | assumption | exact ⟨by omega, by omega⟩) (by first | exact hI _ _ | exact hmM.g _ _ | exact g_b32 | exact g_and32 | exact g_or32 | exact g_shl32 | assumption | exact ⟨by omega, by omega⟩)) my_X13_isIn ms_X13_isIn lm_X13_231 rfl (by decide) (Nat.le_of_ble_eq_true rfl) hm dX13_mean_19 ?_
    refine g_ifb_ne (tgt := 29) hc dX13_mean_22 (by decide)  (fun c2 => ?_) (fun c2 => ?_)
    · skip
      have hTs := q_ts hmM (by omega)
      refine g_lconst hc dX13_mean_29 0 (by decide +kernel) ?_
      refine g_lstore_2 hc dX13_mean_30 rfl ?_
      refine g_iconst hc dX13_mean_31 ?_
      refine g_istore_4 hc dX13_mean_32 rfl ?_
      have lp_34 : ∀ (fu : Nat) (S i : Int) (Mm : g_I) (Rm : g_R), 0 ≤ i ∧ i ≤ I lb 0 → S = g_sum (fun s => (if k = 3 then g_lkd I lb s else I (lb + 2 + s.toNat) k) * g_pts I lb s 0) i.toNat → (-(1000300000000000 * i) ≤ S ∧ S ≤ 1000300000000000 * i) → (∃ tm, g_rf w Rm lb tm) → q_rel I lb Mm → (∀ (k : Nat) (j : Int), ¬ x_a k j → Mm k j = M k j) → I lb 0 - i < (fu : Int) → G w x (x_rel w (some (gvI (if 0 ≤ I 0 12 ∧ 0 ≤ k ∧ k ≤ 3 then g_avg I lb k else -2000000000))) x_a M J lb) 0 0 g_n Mm J Rm 34 [some (gvr w 703), some (gvI k), some (gvL S), none, some (gvI i)] [] := by
        intro fu
        induction fu with
        | zero => intro S i Mm Rm h3 h4 h5 hR hmMm hfMm hfu; exfalso; omega
        | succ fu ih =>
          intro S i Mm Rm h3 h4 h5 hR hmMm hfMm hfu
          obtain ⟨tm, hR⟩ := hR
          have ih_34 := ih
          refine g_iload hc dX13_mean_34 rfl ?_
          refine g_aldn hc dX13_mean_36 rfl ?_
          refine g_getRk hc lk_X13_46 ca_703 (rc_703_21 hR) dX13_mean_37 ?_
          refine g_aldn hc dX13_mean_40 rfl ?_
          refine g_getIe hc lk_X13_52 ca_703 24 rfl (show Mm 703 24 = I 0 12 from hmMm.tab) dX13_mean_41 ?_
          refine g_ialde hc ca_711 (by decide) (by omega) (by omega) (show Mm 711 (I 0 12) = I lb 0 from q_lm hmMm (by omega)) dX13_mean_44 ?_
          refine g_icmp_ge (tgt := 87) hc dX13_mean_45 (by decide) (by first | exact hI _ _ | exact hxI2 _ _ | exact hIa _ _ | exact hIb _ _ | exact g_b32 | exact g_and32 | assumption | exact ⟨by omega, by omega⟩) (by first | exact hI _ _ | exact hxI2 _ _ | exact hIa _ _ | exact hIb _ _ | exact g_b32 | exact g_and32 | assumption | exact ⟨by omega, by omega⟩) (fun c3 => ?_) (fun c3 => ?_)
          · skip
            refine g_lload_n hc dX13_mean_87 rfl ?_
            refine g_ldc2 (k := 1000000000) hc dX13_mean_88 _ lc_X13_356 (by decide +kernel) ?_
            refine g_ldiv hc dX13_mean_91 (by exact ⟨by omega, by omega⟩) (by exact ⟨by omega, by omega⟩) (by omega) ?_
            refine g_l2i hc dX13_mean_92 ?_
            refine g_iret hc hm dX13_mean_93 ?_
            exact x_end (by rw [if_pos (by omega), g_avg, h4, show I lb 0 = i by omega]) hfMm hmMm.g hR
          · skip
            have hpi := g_pts_in (z := 0) hL (s := i) (by omega)
            refine g_lload_n hc dX13_mean_48 rfl ?_
            refine g_aldn hc dX13_mean_49 rfl ?_
            refine g_iload hc dX13_mean_50 rfl ?_
            refine g_V1 hc (c_X13_oddsOf w hR hmMm (by omega)) my_X13_oddsOf mv_X13_oddsOf ca_703 rfl rfl lm_X13_364 rfl (by decide) (Nat.le_of_ble_eq_true rfl) hm dX13_mean_52 (fun r4 n4 I4 J4 R4 hp4 => ?_)
            obtain ⟨⟨rfl, rfl, hK4, hX4, rfl, t4, hR⟩, hl4⟩ := hp4
            have hmI4 : q_rel I lb I4 := q_cg hK4 hX4 hmMm
            have hfI4 : ∀ (k : Nat) (j : Int), ¬ x_a k j → I4 k j = M k j := fun k j hk => (hK4 k j hk).trans (hfMm k j hk)
            refine g_i2l hc dX13_mean_55 (by first | exact hI _ _ | exact hxI2 _ _ | exact hIa _ _ | exact hIb _ _ | exact g_b32 | exact g_and32 | assumption | exact ⟨by omega, by omega⟩) ?_
            refine g_iload_n hc dX13_mean_56 rfl ?_
            refine g_iconst hc dX13_mean_57 ?_
            refine g_icmp_ge (tgt := 71) hc dX13_mean_58 (by decide) (by first | exact hI _ _ | exact hxI2 _ _ | exact hIa _ _ | exact hIb _ _ | exact g_b32 | exact g_and32 | assumption | exact ⟨by omega, by omega⟩) (by first | exact hI _ _ | exact hxI2 _ _ | exact hIa _ _ | exact hIb _ _ | exact g_b32 | exact g_and32 | assumption | exact ⟨by omega, by omega⟩) (fun c4 => ?_) (fun c4 => ?_)
            · skip
              have hnum := g_lkd_in hC (s := i) (by omega)
              have hmb := g_mulb (a := g_lkd I lb i) (b := g_pts I lb i 0) (m := 1000300) (n := 1000000000) (by omega) (by omega)
              rw [Int.mul_comm] at hmb
              refine g_aldn hc dX13_mean_71 rfl ?_
              refine g_iload hc dX13_mean_72 rfl ?_
              refine g_V1 hc (c_X13_worthOf w hR hmI4 (by omega)) my_X13_worthOf mv_X13_worthOf ca_703 rfl rfl lm_X13_373 rfl (by decide) (Nat.le_of_ble_eq_true rfl) hm dX13_mean_74 (fun r5 n5 I5 J5 R5 hp5 => ?_)
              obtain ⟨rfl, rfl, hK5, hX5, rfl, t5, hR⟩ := hp5
              have hmI5 : q_rel I lb I5 := q_cg hK5 hX5 hmI4
              have hfI5 : ∀ (k : Nat) (j : Int), ¬ x_a k j → I5 k j = M k j := fun k j hk => (hK5 k j hk).trans (hfI4 k j hk)
              refine g_i2l hc dX13_mean_77 (by first | exact hI _ _ | exact hxI2 _ _ | exact hIa _ _ | exact hIb _ _ | exact g_b32 | exact g_and32 | assumption | exact ⟨by omega, by omega⟩) ?_
              refine g_lmul hc dX13_mean_78 ?_
              refine g_ladd hc dX13_mean_79 ?_
              refine g_lstore_2 hc dX13_mean_80 rfl ?_
              refine g_iinc_4 hc dX13_mean_81 rfl ?_
              refine g_goto (tgt := 34) hc dX13_mean_84 (by decide) ?_
              refine ih_34 _ _ _ _ ?_ ?_ ?_ ?_ ?_ ?_ ?_
              · omega
              · rw [g_sum_i h3.1, h4, if_pos (by omega), Int.mul_comm]
              · omega
              · exact ⟨_, hR⟩
              · exact hmI5
              · exact hfI5
              · omega
            · skip
              have hnum := x_hs hmM (s := i) (k := k) (by omega) (by omega)
              have hmb := g_mulb (a := I (lb + 2 + i.toNat) k) (b := g_pts I lb i 0) (m := 1000300) (n := 1000000000) (by omega) (by omega)
              rw [Int.mul_comm] at hmb
              refine g_aldn hc dX13_mean_61 rfl ?_
              refine g_iload hc dX13_mean_62 rfl ?_
              refine g_iload_n hc dX13_mean_64 rfl ?_
              refine g_V2 hc (c_X13_hasOf w hR hmI4 (by omega) (by omega)) my_X13_hasOf mv_X13_hasOf ca_703 rfl rfl lm_X13_318 rfl (by decide) (Nat.le_of_ble_eq_true rfl) hm dX13_mean_65 (fun r6 n6 I6 J6 R6 hp6 => ?_)
              obtain ⟨⟨rfl, rfl, hK6, hX6, rfl, t6, hR⟩, hwI6⟩ := hp6
              have hmI6 : q_rel I lb I6 := q_cg (fun k j hk => hK6 k j (fun z => hk (x_wa z))) hX6 hmI4
              have hfI6 : ∀ (k : Nat) (j : Int), ¬ x_a k j → I6 k j = M k j := fun k j hk => (hK6 k j (fun z => hk (x_wa z))).trans (hfI4 k j hk)
              refine g_goto (tgt := 77) hc dX13_mean_68 (by decide) ?_
              refine g_i2l hc dX13_mean_77 (by first | exact hI _ _ | exact hxI2 _ _ | exact hIa _ _ | exact hIb _ _ | exact g_b32 | exact g_and32 | assumption | exact ⟨by omega, by omega⟩) ?_
              refine g_lmul hc dX13_mean_78 ?_
              refine g_ladd hc dX13_mean_79 ?_
              refine g_lstore_2 hc dX13_mean_80 rfl ?_
              refine g_iinc_4 hc dX13_mean_81 rfl ?_
              refine g_goto (tgt := 34) hc dX13_mean_84 (by decide) ?_
              refine ih_34 _ _ _ _ ?_ ?_ ?_ ?_ ?_ ?_ ?_
              · omega
              · rw [g_sum_i h3.1, h4, if_neg (by omega), Int.mul_comm]
              · omega
              · exact ⟨_, hR⟩
              · exact hmI6
              · exact hfI6
              · omega
      refine lp_34 13 _ _ _ _ ?_ ?_ ?_ ?_ ?_ ?_ (?_)
      · omega
      · rfl
      · omega
      · exact ⟨_, hR⟩
      · exact hmI3
      · exact hfI3
      · omega
    · skip
      refine g_ldcw (k := (-2000000000)) hc dX13_mean_25 _ lc_X13_376 (by decide +kernel) ?_
      refine g_iret hc hm dX13_mean_28 ?_
      exact x_end (by rw [if_neg (by omega)]) hfI3 hmI3.g hR
set_option maxHeartbeats 4000000 in
set_option maxRecDepth 100000 in
/-- X13_twins -/
theorem c_X13_twins (w : g_W) {I : g_I} {J : g_J} {R : g_R} {lb tx : Nat} (hR : g_rf w R lb tx) {M : g_I} (hmM : q_rel I lb M) {s : Int} (g1 : g32 s) : g_Met w g_n M J R yX13_twins cX13_twins 4 (some .int) 3 0 0 [(gvr w 703), (gvI s)] (x_rel w (some (gvI (if (0 ≤ s ∧ s < I lb 0) then g_twn I lb s else -1))) x_a M J lb) := by
  refine g_intro (own := RX13) [some (gvr w 703), some (gvI s), none, none] (by decide +kernel) rfl (by decide) (Nat.le_of_ble_eq_true rfl) rfl (fun i v hv => g_args 2 i v hv rfl) (fun x hc hm => ?_)
  have hfM : ∀ (k : Nat) (j : Int), ¬ x_a k j → M k j = M k j := fun _ _ _ => rfl
  have hI := hmM.gi
  have hTb := q_b1 hmM
  have hLv := hmM.lv
  have hC := hmM.cin
  have hL := hC.1
  obtain ⟨hn0, hn1, hLs, hLf⟩ := id hL
  obtain ⟨-, hC1, hC2, hC3, hC4, hC5, hC6, hC7⟩ := id hC
  have hN0 := q_n0 hmM
  refine g_aldn hc dX13_twins_0 rfl ?_
  refine g_iconst hc dX13_twins_1 ?_
  refine g_putI' hc lk_X13_102 ca_703 0 rfl dX13_twins_2 (fun I3 hI3 => ?_)
  have hmI3 : q_rel I lb I3 := by rw [hI3]; exact q_up hmM (by unfold x_a; omega) (by first | exact hI _ _ | exact hmM.g _ _ | exact g_b32 | exact g_and32 | exact g_or32 | exact g_shl32 | assumption | exact ⟨by omega, by omega⟩)
  have hfI3 : ∀ (k : Nat) (j : Int), ¬ x_a k j → I3 k j = M k j := fun k j hk => by rw [hI3]; exact (g_up_n (by unfold x_a at hk; omega)).trans (hfM k j hk)
  refine g_aldn hc dX13_twins_5 rfl ?_
  refine g_iload_n hc dX13_twins_6 rfl ?_
  refine g_V1r hc (c_X13_isSelf w hR hmI3 (by first | exact hI _ _ | exact hmM.g _ _ | exact g_b32 | exact g_and32 | exact g_or32 | exact g_shl32 | assumption | exact ⟨by omega, by omega⟩)) my_X13_isSelf mv_X13_isSelf ca_703 rfl rfl lm_X13_313 rfl (by decide) (Nat.le_of_ble_eq_true rfl) hm dX13_twins_7 ?_
  refine g_ifb_ne (tgt := 15) hc dX13_twins_10 (by decide)  (fun c1 => ?_) (fun c1 => ?_)
  · skip
    have hTs := q_ts hmM (by omega)
    refine g_iconst hc dX13_twins_15 ?_
    refine g_istore_2 hc dX13_twins_16 rfl ?_
    refine g_iconst hc dX13_twins_17 ?_
    refine g_istore_3 hc dX13_twins_18 rfl ?_
    have lp_19 : ∀ (fu : Nat) (a i : Int) (Mm : g_I) (Rm : g_R), 0 ≤ i ∧ i ≤ I lb 0 → a = g_ors (fun t => if ¬ t = s ∧ g_fct I lb t = g_fct I lb s ∧ g_thr I lb t = true then g_shl 1 t else 0) i.toNat → (∃ tm, g_rf w Rm lb tm) → q_rel I lb Mm → (∀ (k : Nat) (j : Int), ¬ x_a k j → Mm k j = M k j) → I lb 0 - i < (fu : Int) → G w x (x_rel w (some (gvI (if (0 ≤ s ∧ s < I lb 0) then g_twn I lb s else -1))) x_a M J lb) 0 0 g_n Mm J Rm 19 [some (gvr w 703), some (gvI s), some (gvI a), some (gvI i)] [] := by
      intro fu
      induction fu with
      | zero => intro a i Mm Rm h3 h4 hR hmMm hfMm hfu; exfalso; omega
      | succ fu ih =>
        intro a i Mm Rm h3 h4 hR hmMm hfMm hfu
        obtain ⟨tm, hR⟩ := hR
        have ih_19 := ih
        refine g_iload_n hc dX13_twins_19 rfl ?_
        refine g_aldn hc dX13_twins_20 rfl ?_
        refine g_getRk hc lk_X13_46 ca_703 (rc_703_21 hR) dX13_twins_21 ?_
        refine g_aldn hc dX13_twins_24 rfl ?_
        refine g_getIe hc lk_X13_52 ca_703 24 rfl (show Mm 703 24 = I 0 12 from hmMm.tab) dX13_twins_25 ?_
        refine g_ialde hc ca_711 (by decide) (by omega) (by omega) (show Mm 711 (I 0 12) = I lb 0 from q_lm hmMm (by omega)) dX13_twins_28 ?_
        refine g_icmp_ge (tgt := 74) hc dX13_twins_29 (by decide) (by first | exact hI _ _ | exact hxI2 _ _ | exact hIa _ _ | exact hIb _ _ | exact g_b32 | exact g_and32 | assumption | exact ⟨by omega, by omega⟩) (by first | exact hI _ _ | exact hxI2 _ _ | exact hIa _ _ | exact hIb _ _ | exact g_b32 | exact g_and32 | assumption | exact ⟨by omega, by omega⟩) (fun c2 => ?_) (fun c2 => ?_)
        · skip
          refine g_iload_n hc dX13_twins_74 rfl ?_
          refine g_iret hc hm dX13_twins_75 ?_
          exact x_end (by rw [if_pos (by omega), h4, g_twn, show I lb 0 = i by omega]) hfMm hmMm.g hR
        · skip
          refine g_iload_n hc dX13_twins_32 rfl ?_
          refine g_iload_n hc dX13_twins_33 rfl ?_
          refine g_iload_n hc dX13_twins_34 rfl ?_
          refine g_icmp_eq (tgt := 65) hc dX13_twins_35 (by decide) (by first | exact hI _ _ | exact hxI2 _ _ | exact hIa _ _ | exact hIb _ _ | exact g_b32 | exact g_and32 | assumption | exact ⟨by omega, by omega⟩) (by first | exact hI _ _ | exact hxI2 _ _ | exact hIa _ _ | exact hIb _ _ | exact g_b32 | exact g_and32 | assumption | exact ⟨by omega, by omega⟩) (fun c3 => ?_) (fun c3 => ?_)
          · skip
            have hng : ¬ (¬ i = s ∧ g_fct I lb i = g_fct I lb s ∧ g_thr I lb i = true) := fun z => z.1 c3
            refine g_iconst hc dX13_twins_65 ?_
            refine g_ior hc dX13_twins_66 ?_
            refine g_istore_2 hc dX13_twins_67 rfl ?_
            refine g_iinc_3 hc dX13_twins_68 rfl ?_
            refine g_goto (tgt := 19) hc dX13_twins_71 (by decide) ?_
            refine ih_19 _ _ _ _ ?_ ?_ ?_ ?_ ?_ ?_
            · omega
            · rw [g_ors_i h3.1, h4]; rw [if_neg hng]
            · exact ⟨_, hR⟩
            · exact hmMm
            · exact hfMm
            · omega
          · skip
            refine g_aldn hc dX13_twins_38 rfl ?_
            refine g_iload_n hc dX13_twins_39 rfl ?_
            refine g_V1 hc (c_X13_isThere w hR hmMm (by omega)) my_X13_isThere mv_X13_isThere ca_703 rfl rfl lm_X13_324 rfl (by decide) (Nat.le_of_ble_eq_true rfl) hm dX13_twins_40 (fun r4 n4 I4 J4 R4 hp4 => ?_)
            obtain ⟨rfl, rfl, hK4, hX4, rfl, t4, hR⟩ := hp4
            have hmI4 : q_rel I lb I4 := q_cg (fun k j hk => hK4 k j (fun z => hk (x_wa z))) hX4 hmMm
            have hfI4 : ∀ (k : Nat) (j : Int), ¬ x_a k j → I4 k j = M k j := fun k j hk => (hK4 k j (fun z => hk (x_wa z))).trans (hfMm k j hk)
            refine g_ifb_eq (tgt := 65) hc dX13_twins_43 (by decide)  (fun c4 => ?_) (fun c4 => ?_)
            · skip
              have hng : ¬ (¬ i = s ∧ g_fct I lb i = g_fct I lb s ∧ g_thr I lb i = true) := fun z => c4 z.2.2
              refine g_iconst hc dX13_twins_65 ?_
              refine g_ior hc dX13_twins_66 ?_
              refine g_istore_2 hc dX13_twins_67 rfl ?_
              refine g_iinc_3 hc dX13_twins_68 rfl ?_
              refine g_goto (tgt := 19) hc dX13_twins_71 (by decide) ?_
              refine ih_19 _ _ _ _ ?_ ?_ ?_ ?_ ?_ ?_
              · omega
              · rw [g_ors_i h3.1, h4]; rw [if_neg hng]
              · exact ⟨_, hR⟩
              · exact hmI4
              · exact hfI4
              · omega
            · skip
              have hth := c4
              refine g_aldn hc dX13_twins_46 rfl ?_
              refine g_iload_n hc dX13_twins_47 rfl ?_
              refine g_V1 hc (c_X13_factsOf w hR hmI4 (by omega)) my_X13_factsOf mv_X13_factsOf ca_703 rfl rfl lm_X13_321 rfl (by decide) (Nat.le_of_ble_eq_true rfl) hm dX13_twins_48 (fun r5 n5 I5 J5 R5 hp5 => ?_)
              obtain ⟨rfl, rfl, hK5, hX5, rfl, t5, hR⟩ := hp5
              have hmI5 : q_rel I lb I5 := q_cg (fun k j hk => hK5 k j (fun z => hk (x_wa z))) hX5 hmI4
              have hfI5 : ∀ (k : Nat) (j : Int), ¬ x_a k j → I5 k j = M k j := fun k j hk => (hK5 k j (fun z => hk (x_wa z))).trans (hfI4 k j hk)
              refine g_aldn hc dX13_twins_51 rfl ?_
              refine g_iload_n hc dX13_twins_52 rfl ?_
              refine g_V1 hc (c_X13_factsOf w hR hmI5 (by omega)) my_X13_factsOf mv_X13_factsOf ca_703 rfl rfl lm_X13_321 rfl (by decide) (Nat.le_of_ble_eq_true rfl) hm dX13_twins_53 (fun r6 n6 I6 J6 R6 hp6 => ?_)
              obtain ⟨rfl, rfl, hK6, hX6, rfl, t6, hR⟩ := hp6
              have hmI6 : q_rel I lb I6 := q_cg (fun k j hk => hK6 k j (fun z => hk (x_wa z))) hX6 hmI5
              have hfI6 : ∀ (k : Nat) (j : Int), ¬ x_a k j → I6 k j = M k j := fun k j hk => (hK6 k j (fun z => hk (x_wa z))).trans (hfI5 k j hk)
              refine g_icmp_ne (tgt := 65) hc dX13_twins_56 (by decide) (by first | exact hI _ _ | exact hxI2 _ _ | exact hIa _ _ | exact hIb _ _ | exact g_b32 | exact g_and32 | assumption | exact ⟨by omega, by omega⟩) (by first | exact hI _ _ | exact hxI2 _ _ | exact hIa _ _ | exact hIb _ _ | exact g_b32 | exact g_and32 | assumption | exact ⟨by omega, by omega⟩) (fun c5 => ?_) (fun c5 => ?_)
              · skip
                have hng : ¬ (¬ i = s ∧ g_fct I lb i = g_fct I lb s ∧ g_thr I lb i = true) := fun z => c5 z.2.1
                refine g_iconst hc dX13_twins_65 ?_
                refine g_ior hc dX13_twins_66 ?_
                refine g_istore_2 hc dX13_twins_67 rfl ?_
                refine g_iinc_3 hc dX13_twins_68 rfl ?_
                refine g_goto (tgt := 19) hc dX13_twins_71 (by decide) ?_
                refine ih_19 _ _ _ _ ?_ ?_ ?_ ?_ ?_ ?_
                · omega
                · rw [g_ors_i h3.1, h4]; rw [if_neg hng]
                · exact ⟨_, hR⟩
                · exact hmI6
                · exact hfI6
                · omega
              · skip
                have hps : ¬ i = s ∧ g_fct I lb i = g_fct I lb s ∧ g_thr I lb i = true := ⟨by omega, c5, hth⟩
                refine g_iconst hc dX13_twins_59 ?_
                refine g_iload_n hc dX13_twins_60 rfl ?_
                refine g_ishl hc dX13_twins_61 ?_
                refine g_goto (tgt := 66) hc dX13_twins_62 (by decide) ?_
                refine g_ior hc dX13_twins_66 ?_
                refine g_istore_2 hc dX13_twins_67 rfl ?_
                refine g_iinc_3 hc dX13_twins_68 rfl ?_
                refine g_goto (tgt := 19) hc dX13_twins_71 (by decide) ?_
                refine ih_19 _ _ _ _ ?_ ?_ ?_ ?_ ?_ ?_
                · omega
                · rw [g_ors_i h3.1, h4]; rw [if_pos hps]
                · exact ⟨_, hR⟩
                · exact hmI6
                · exact hfI6
                · omega
    refine lp_19 13 _ _ _ _ ?_ ?_ ?_ ?_ ?_ (?_)
    · omega
    · rfl
    · exact ⟨_, hR⟩
    · exact hmI3
    · exact hfI3
    · omega
  · skip
    refine g_iconst hc dX13_twins_13 ?_
    refine g_iret hc hm dX13_twins_14 ?_
    exact x_end (by rw [if_neg (by omega)]) hfI3 hmI3.g hR
set_option maxHeartbeats 4000000 in
set_option maxRecDepth 100000 in
/-- X13_leads -/
theorem c_X13_leads (w : g_W) {I : g_I} {J : g_J} {R : g_R} {lb tx : Nat} (hR : g_rf w R lb tx) {M : g_I} (hmM : q_rel I lb M) {u v : Int} (g1 : g32 u) (g2 : g32 v) : g_Met w g_n M J R yX13_leads cX13_leads 4 (some .int) 3 0 0 [(gvr w 703), (gvI u), (gvI v)] (x_rel w (some (gvI (if 0 ≤ I 0 12 ∧ (0 ≤ u ∧ u ≤ 9) ∧ 0 ≤ v ∧ v ≤ 9 then g_b (g_lds I lb u v = true) else -1))) x_a M J lb) := by
  refine g_intro (own := RX13) [some (gvr w 703), some (gvI u), some (gvI v), none] (by decide +kernel) rfl (by decide) (Nat.le_of_ble_eq_true rfl) rfl (fun i v hv => g_args 1 i v hv rfl) (fun x hc hm => ?_)
  have hfM : ∀ (k : Nat) (j : Int), ¬ x_a k j → M k j = M k j := fun _ _ _ => rfl
  have hI := hmM.gi
  have hTb := q_b1 hmM
  have hLv := hmM.lv
  have hC := hmM.cin
  have hL := hC.1
  obtain ⟨hn0, hn1, hLs, hLf⟩ := id hL
  obtain ⟨-, hC1, hC2, hC3, hC4, hC5, hC6, hC7⟩ := id hC
  have hN0 := q_n0 hmM
  refine g_aldn hc dX13_leads_0 rfl ?_
  refine g_iconst hc dX13_leads_1 ?_
  refine g_putI' hc lk_X13_102 ca_703 0 rfl dX13_leads_2 (fun I3 hI3 => ?_)
  have hmI3 : q_rel I lb I3 := by rw [hI3]; exact q_up hmM (by unfold x_a; omega) (by first | exact hI _ _ | exact hmM.g _ _ | exact g_b32 | exact g_and32 | exact g_or32 | exact g_shl32 | assumption | exact ⟨by omega, by omega⟩)
  have hfI3 : ∀ (k : Nat) (j : Int), ¬ x_a k j → I3 k j = M k j := fun k j hk => by rw [hI3]; exact (g_up_n (by unfold x_a at hk; omega)).trans (hfM k j hk)
  refine g_aldn hc dX13_leads_5 rfl ?_
  refine g_getIe hc lk_X13_52 ca_703 24 rfl (show I3 703 24 = I 0 12 from hmI3.tab) dX13_leads_6 ?_
  refine g_iconst hc dX13_leads_9 ?_
  refine g_icmp_eq (tgt := 37) hc dX13_leads_10 (by decide) (by first | exact hI _ _ | exact hxI2 _ _ | exact hIa _ _ | exact hIb _ _ | exact g_b32 | exact g_and32 | assumption | exact ⟨by omega, by omega⟩) (by first | exact hI _ _ | exact hxI2 _ _ | exact hIa _ _ | exact hIb _ _ | exact g_b32 | exact g_and32 | assumption | exact ⟨by omega, by omega⟩) (fun c1 => ?_) (fun c1 => ?_)
  · skip
    refine g_iconst hc dX13_leads_37 ?_
    refine g_iret hc hm dX13_leads_38 ?_
    exact x_end (by rw [if_neg (by omega)]) hfI3 hmI3.g hR
  · skip
    refine g_iload_n hc dX13_leads_13 rfl ?_
    refine g_i2l hc dX13_leads_14 (by first | exact hI _ _ | exact hxI2 _ _ | exact hIa _ _ | exact hIb _ _ | exact g_b32 | exact g_and32 | assumption | exact ⟨by omega, by omega⟩) ?_
    refine g_lconst hc dX13_leads_15 0 (by decide +kernel) ?_
    refine g_ldc2 (k := 9) hc dX13_leads_16 _ lc_X13_436 (by decide +kernel) ?_
    refine g_S3r hc (c_X13_isIn w (by first | exact hI _ _ | exact hmM.g _ _ | exact g_b32 | exact g_and32 | exact g_or32 | exact g_shl32 | assumption | exact ⟨by omega, by omega⟩) (by first | exact hI _ _ | exact hmM.g _ _ | exact g_b32 | exact g_and32 | exact g_or32 | exact g_shl32 | assumption | exact ⟨by omega, by omega⟩) (by first | exact hI _ _ | exact hmM.g _ _ | exact g_b32 | exact g_and32 | exact g_or32 | exact g_shl32 | assumption | exact ⟨by omega, by omega⟩)) my_X13_isIn ms_X13_isIn lm_X13_231 rfl (by decide) (Nat.le_of_ble_eq_true rfl) hm dX13_leads_19 ?_
    refine g_ifb_eq (tgt := 37) hc dX13_leads_22 (by decide)  (fun c2 => ?_) (fun c2 => ?_)
    · skip
      refine g_iconst hc dX13_leads_37 ?_
      refine g_iret hc hm dX13_leads_38 ?_
      exact x_end (by rw [if_neg (by omega)]) hfI3 hmI3.g hR
    · skip
      refine g_iload_n hc dX13_leads_25 rfl ?_
      refine g_i2l hc dX13_leads_26 (by first | exact hI _ _ | exact hxI2 _ _ | exact hIa _ _ | exact hIb _ _ | exact g_b32 | exact g_and32 | assumption | exact ⟨by omega, by omega⟩) ?_
      refine g_lconst hc dX13_leads_27 0 (by decide +kernel) ?_
      refine g_ldc2 (k := 9) hc dX13_leads_28 _ lc_X13_436 (by decide +kernel) ?_
      refine g_S3r hc (c_X13_isIn w (by first | exact hI _ _ | exact hmM.g _ _ | exact g_b32 | exact g_and32 | exact g_or32 | exact g_shl32 | assumption | exact ⟨by omega, by omega⟩) (by first | exact hI _ _ | exact hmM.g _ _ | exact g_b32 | exact g_and32 | exact g_or32 | exact g_shl32 | assumption | exact ⟨by omega, by omega⟩) (by first | exact hI _ _ | exact hmM.g _ _ | exact g_b32 | exact g_and32 | exact g_or32 | exact g_shl32 | assumption | exact ⟨by omega, by omega⟩)) my_X13_isIn ms_X13_isIn lm_X13_231 rfl (by decide) (Nat.le_of_ble_eq_true rfl) hm dX13_leads_31 ?_
      refine g_ifb_ne (tgt := 39) hc dX13_leads_34 (by decide)  (fun c3 => ?_) (fun c3 => ?_)
      · skip
        have hTs := q_ts hmM (by omega)
        refine g_iconst hc dX13_leads_39 ?_
        refine g_istore_3 hc dX13_leads_40 rfl ?_
        have lp_41 : ∀ (fu : Nat) (i : Int) (Mm : g_I) (Rm : g_R), 0 ≤ i ∧ i ≤ I lb 0 → g_lds I lb u v = g_all (fun t => decide (¬ (g_bit (g_fct I lb t) u ∧ ¬ g_bit (g_fct I lb t) v ∧ g_thr I lb t = true))) (I lb 0 - i).toNat i → (∃ tm, g_rf w Rm lb tm) → q_rel I lb Mm → (∀ (k : Nat) (j : Int), ¬ x_a k j → Mm k j = M k j) → I lb 0 - i < (fu : Int) → G w x (x_rel w (some (gvI (if 0 ≤ I 0 12 ∧ (0 ≤ u ∧ u ≤ 9) ∧ 0 ≤ v ∧ v ≤ 9 then g_b (g_lds I lb u v = true) else -1))) x_a M J lb) 0 0 g_n Mm J Rm 41 [some (gvr w 703), some (gvI u), some (gvI v), some (gvI i)] [] := by
          intro fu
          induction fu with
          | zero => intro i Mm Rm h3 h4 hR hmMm hfMm hfu; exfalso; omega
          | succ fu ih =>
            intro i Mm Rm h3 h4 hR hmMm hfMm hfu
            obtain ⟨tm, hR⟩ := hR
            have ih_41 := ih
            refine g_iload_n hc dX13_leads_41 rfl ?_
            refine g_aldn hc dX13_leads_42 rfl ?_
            refine g_getRk hc lk_X13_46 ca_703 (rc_703_21 hR) dX13_leads_43 ?_
            refine g_aldn hc dX13_leads_46 rfl ?_
            refine g_getIe hc lk_X13_52 ca_703 24 rfl (show Mm 703 24 = I 0 12 from hmMm.tab) dX13_leads_47 ?_
            refine g_ialde hc ca_711 (by decide) (by omega) (by omega) (show Mm 711 (I 0 12) = I lb 0 from q_lm hmMm (by omega)) dX13_leads_50 ?_
            refine g_icmp_ge (tgt := 94) hc dX13_leads_51 (by decide) (by first | exact hI _ _ | exact hxI2 _ _ | exact hIa _ _ | exact hIb _ _ | exact g_b32 | exact g_and32 | assumption | exact ⟨by omega, by omega⟩) (by first | exact hI _ _ | exact hxI2 _ _ | exact hIa _ _ | exact hIb _ _ | exact g_b32 | exact g_and32 | assumption | exact ⟨by omega, by omega⟩) (fun c4 => ?_) (fun c4 => ?_)
            · skip
              refine g_iconst hc dX13_leads_94 ?_
              refine g_iret hc hm dX13_leads_95 ?_
              exact x_end (by rw [if_pos (by omega), g_b1]; rw [h4, g_all_e (by omega)]) hfMm hmMm.g hR
            · skip
              refine g_aldn hc dX13_leads_54 rfl ?_
              refine g_iload_n hc dX13_leads_55 rfl ?_
              refine g_V1 hc (c_X13_isThere w hR hmMm (by omega)) my_X13_isThere mv_X13_isThere ca_703 rfl rfl lm_X13_324 rfl (by decide) (Nat.le_of_ble_eq_true rfl) hm dX13_leads_56 (fun r4 n4 I4 J4 R4 hp4 => ?_)
              obtain ⟨rfl, rfl, hK4, hX4, rfl, t4, hR⟩ := hp4
              have hmI4 : q_rel I lb I4 := q_cg (fun k j hk => hK4 k j (fun z => hk (x_wa z))) hX4 hmMm
              have hfI4 : ∀ (k : Nat) (j : Int), ¬ x_a k j → I4 k j = M k j := fun k j hk => (hK4 k j (fun z => hk (x_wa z))).trans (hfMm k j hk)
              refine g_ifb_eq (tgt := 88) hc dX13_leads_59 (by decide)  (fun c5 => ?_) (fun c5 => ?_)
              · skip
                have hyv := decide_eq_true (show ¬ (g_bit (g_fct I lb i) u ∧ ¬ g_bit (g_fct I lb i) v ∧ g_thr I lb i = true) from fun z => c5 z.2.2)
                refine g_iinc_3 hc dX13_leads_88 rfl ?_
                refine g_goto (tgt := 41) hc dX13_leads_91 (by decide) ?_
                refine ih_41 _ _ _ ?_ ?_ ?_ ?_ ?_ ?_
                · omega
                · rw [h4, g_all_t (by omega) hyv]
                · exact ⟨_, hR⟩
                · exact hmI4
                · exact hfI4
                · omega
              · skip
                have hth := c5
                refine g_aldn hc dX13_leads_62 rfl ?_
                refine g_iload_n hc dX13_leads_63 rfl ?_
                refine g_V1 hc (c_X13_factsOf w hR hmI4 (by omega)) my_X13_factsOf mv_X13_factsOf ca_703 rfl rfl lm_X13_321 rfl (by decide) (Nat.le_of_ble_eq_true rfl) hm dX13_leads_64 (fun r5 n5 I5 J5 R5 hp5 => ?_)
                obtain ⟨rfl, rfl, hK5, hX5, rfl, t5, hR⟩ := hp5
                have hmI5 : q_rel I lb I5 := q_cg (fun k j hk => hK5 k j (fun z => hk (x_wa z))) hX5 hmI4
                have hfI5 : ∀ (k : Nat) (j : Int), ¬ x_a k j → I5 k j = M k j := fun k j hk => (hK5 k j (fun z => hk (x_wa z))).trans (hfI4 k j hk)
                refine g_iload_n hc dX13_leads_67 rfl ?_
                refine g_S2r hc (c_X13_has w) my_X13_has ms_X13_has lm_X13_224 rfl (by decide) (Nat.le_of_ble_eq_true rfl) hm dX13_leads_68 ?_
                refine g_ifb_eq (tgt := 88) hc dX13_leads_71 (by decide)  (fun c6 => ?_) (fun c6 => ?_)
                · skip
                  have hyv := decide_eq_true (show ¬ (g_bit (g_fct I lb i) u ∧ ¬ g_bit (g_fct I lb i) v ∧ g_thr I lb i = true) from fun z => c6 z.1)
                  refine g_iinc_3 hc dX13_leads_88 rfl ?_
                  refine g_goto (tgt := 41) hc dX13_leads_91 (by decide) ?_
                  refine ih_41 _ _ _ ?_ ?_ ?_ ?_ ?_ ?_
                  · omega
                  · rw [h4, g_all_t (by omega) hyv]
                  · exact ⟨_, hR⟩
                  · exact hmI5
                  · exact hfI5
                  · omega
                · skip
                  have hbu := c6
                  refine g_aldn hc dX13_leads_74 rfl ?_
                  refine g_iload_n hc dX13_leads_75 rfl ?_
                  refine g_V1 hc (c_X13_factsOf w hR hmI5 (by omega)) my_X13_factsOf mv_X13_factsOf ca_703 rfl rfl lm_X13_321 rfl (by decide) (Nat.le_of_ble_eq_true rfl) hm dX13_leads_76 (fun r6 n6 I6 J6 R6 hp6 => ?_)
                  obtain ⟨rfl, rfl, hK6, hX6, rfl, t6, hR⟩ := hp6
                  have hmI6 : q_rel I lb I6 := q_cg (fun k j hk => hK6 k j (fun z => hk (x_wa z))) hX6 hmI5
                  have hfI6 : ∀ (k : Nat) (j : Int), ¬ x_a k j → I6 k j = M k j := fun k j hk => (hK6 k j (fun z => hk (x_wa z))).trans (hfI5 k j hk)
                  refine g_iload_n hc dX13_leads_79 rfl ?_
                  refine g_S2r hc (c_X13_has w) my_X13_has ms_X13_has lm_X13_224 rfl (by decide) (Nat.le_of_ble_eq_true rfl) hm dX13_leads_80 ?_
                  refine g_ifb_ne (tgt := 88) hc dX13_leads_83 (by decide)  (fun c7 => ?_) (fun c7 => ?_)
                  · skip
                    have hyv := decide_eq_true (show ¬ (g_bit (g_fct I lb i) u ∧ ¬ g_bit (g_fct I lb i) v ∧ g_thr I lb i = true) from fun z => z.2.1 c7)
                    refine g_iinc_3 hc dX13_leads_88 rfl ?_
                    refine g_goto (tgt := 41) hc dX13_leads_91 (by decide) ?_
                    refine ih_41 _ _ _ ?_ ?_ ?_ ?_ ?_ ?_
                    · omega
                    · rw [h4, g_all_t (by omega) hyv]
                    · exact ⟨_, hR⟩
                    · exact hmI6
                    · exact hfI6
                    · omega
                  · skip
                    have hnv : ¬ (fun t => decide (¬ (g_bit (g_fct I lb t) u ∧ ¬ g_bit (g_fct I lb t) v ∧ g_thr I lb t = true))) i = true := fun z => (of_decide_eq_true z) ⟨hbu, c7, hth⟩
                    refine g_iconst hc dX13_leads_86 ?_
                    refine g_iret hc hm dX13_leads_87 ?_
                    exact x_end (by rw [if_pos (by omega), g_b0]; rw [h4, g_all_f (by omega) hnv]; decide) hfI6 hmI6.g hR
        refine lp_41 13 _ _ _ ?_ ?_ ?_ ?_ ?_ (?_)
        · omega
        · rw [Int.sub_zero]; rfl
        · exact ⟨_, hR⟩
        · exact hmI3
        · exact hfI3
        · omega
      · skip
        refine g_iconst hc dX13_leads_37 ?_
        refine g_iret hc hm dX13_leads_38 ?_
        exact x_end (by rw [if_neg (by omega)]) hfI3 hmI3.g hR
