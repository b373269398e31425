def x_cnt (I : g_I) (b : Nat) (k : Int) : Int := if k = 0 then I 0 10 else if k = 1 then I 0 12 else if k = 2 then I b 0 else if k = 3 then I b 1 else if k = 4 then I 0 11 else if k = 5 then I 1 1 else if k = 6 then g_bc (g_thb I b) else if 7 ≤ k ∧ k ≤ 10 then I 550 (k - 7) else if k = 11 then I 697 4 else if k = 12 then I 701 2 else if k = 13 then I 549 5 else -2000000000
def x_slf (I : g_I) (b : Nat) (s k : Int) : Int := if k ≤ 6 then I (b + 2 + s.toNat) k else if k = 7 then g_b (g_thr I b s = true) else I (b + 14) s
theorem q_lfk {I M : g_I} {lb : Nat} (h : q_rel I lb M) {s k : Int} (h1 : 0 ≤ s ∧ s < I lb 0) (hk : 3 ≤ k ∧ k < 6) : M 708 ((I 0 12 * 12 + s) * 7 + k - 1) = I (lb + 2 + s.toNat) k := by
  rcases (show k = 3 ∨ k = 4 ∨ k = 5 by omega) with rfl | rfl | rfl
  · rw [show (I 0 12 * 12 + s) * 7 + 3 - 1 = (I 0 12 * 12 + s) * 7 + 2 by omega]; exact q_l2 h h1
  · rw [show (I 0 12 * 12 + s) * 7 + 4 - 1 = (I 0 12 * 12 + s) * 7 + 3 by omega]; exact q_l3 h h1
  · rw [show (I 0 12 * 12 + s) * 7 + 5 - 1 = (I 0 12 * 12 + s) * 7 + 4 by omega]; exact q_l4 h h1
set_option maxHeartbeats 4000000 in
set_option maxRecDepth 100000 in
/-- X13_self -/
theorem c_X13_self (w : g_W) {I : g_I} {J : g_J} {R : g_R} {lb tx : Nat} (hR : g_rf w R lb tx) {M : g_I} (hmM : q_rel I lb M) {s k : Int} (g1 : g32 s) (g2 : g32 k) : g_Met w g_n M J R yX13_self cX13_self 3 (some .int) 3 0 0 [(gvr w 703), (gvI s), (gvI k)] (fun rr nn II JJ RR => x_rel w (some (gvI ((if ((0 ≤ s ∧ s < I lb 0) ∧ 0 ≤ k ∧ k ≤ 8) then x_slf I lb s k else 0)))) x_a M J lb rr nn II JJ RR ∧ II 703 0 = (if ((0 ≤ s ∧ s < I lb 0) ∧ 0 ≤ k ∧ k ≤ 8) then (0 : Int) else 1)) := by
  refine g_intro (own := RX13) [some (gvr w 703), some (gvI s), some (gvI k)] (by decide +kernel) rfl (by decide) (Nat.le_of_ble_eq_true rfl) rfl (fun i v hv => g_args 0 i v hv rfl) (fun x hc hm => ?_)
  have hfM : ∀ (k : Nat) (j : Int), ¬ x_a k j → M k j = M k j := fun _ _ _ => rfl
  have hI := hmM.gi
  have hTb := q_b1 hmM
  have hLv := hmM.lv
  have hC := hmM.cin
  have hL := hC.1
  obtain ⟨hn0, hn1, hLs, hLf⟩ := id hL
  obtain ⟨-, hC1, hC2, hC3, hC4, hC5, hC6, hC7⟩ := id hC
  have hN0 := q_n0 hmM
  refine g_aldn hc dX13_self_0 rfl ?_
  refine g_aldn hc dX13_self_1 rfl ?_
  refine g_iload_n hc dX13_self_2 rfl ?_
  refine g_V1r hc (c_X13_isSelf w hR hmM (by first | exact hI _ _ | exact hmM.g _ _ | exact g_b32 | exact g_and32 | exact g_or32 | exact g_shl32 | assumption | exact ⟨by omega, by omega⟩)) my_X13_isSelf mv_X13_isSelf ca_703 rfl rfl lm_X13_313 rfl (by decide) (Nat.le_of_ble_eq_true rfl) hm dX13_self_3 ?_
  refine g_ifb_eq (tgt := 25) hc dX13_self_6 (by decide)  (fun c1 => ?_) (fun c1 => ?_)
  · skip
    refine g_iconst hc dX13_self_25 ?_
    refine g_putI' hc lk_X13_102 ca_703 0 rfl dX13_self_26 (fun I3 hI3 => ?_)
    have hmI3 : q_rel I lb I3 := by rw [hI3]; exact q_up hmM (by unfold x_a; omega) (by first | exact hI _ _ | exact hmM.g _ _ | exact g_b32 | exact g_and32 | exact g_or32 | exact g_shl32 | assumption | exact ⟨by omega, by omega⟩)
    have hfI3 : ∀ (k : Nat) (j : Int), ¬ x_a k j → I3 k j = M k j := fun k j hk => by rw [hI3]; exact (g_up_n (by unfold x_a at hk; omega)).trans (hfM k j hk)
    have htI3 : I3 703 0 = (if ((0 ≤ s ∧ s < I lb 0) ∧ 0 ≤ k ∧ k ≤ 8) then (0 : Int) else 1) := by rw [hI3, g_up_s]; first | rw [if_pos (by omega)] | rw [if_neg (by omega)]
    refine g_aldn hc dX13_self_29 rfl ?_
    refine g_getIe hc lk_X13_102 ca_703 0 rfl (show I3 703 0 = (if ((0 ≤ s ∧ s < I lb 0) ∧ 0 ≤ k ∧ k ≤ 8) then (0 : Int) else 1) from htI3) dX13_self_30 ?_
    refine g_if_le (tgt := 38) hc dX13_self_33 (by decide) (by split <;> exact ⟨by decide, by decide⟩) (fun c2 => ?_) (fun c2 => ?_)
    · skip
      have hg : ((0 ≤ s ∧ s < I lb 0) ∧ 0 ≤ k ∧ k ≤ 8) := by
        by_cases z : ((0 ≤ s ∧ s < I lb 0) ∧ 0 ≤ k ∧ k ≤ 8)
        · exact z
        · have c9 : (if ((0 ≤ s ∧ s < I lb 0) ∧ 0 ≤ k ∧ k ≤ 8) then (0 : Int) else 1) ≤ 0 := c2
          rw [if_neg z] at c9; omega
      have hTs := q_ts hmM (by omega)
      have h1 : 0 ≤ s ∧ s < I lb 0 := hg.1
      refine g_iload_n hc dX13_self_38 rfl ?_
      refine g_iconst hc dX13_self_39 ?_
      refine g_icmp_ge (tgt := 50) hc dX13_self_40 (by decide) (by first | exact hI _ _ | exact hxI2 _ _ | exact hIa _ _ | exact hIb _ _ | exact g_b32 | exact g_and32 | assumption | exact ⟨by omega, by omega⟩) (by first | exact hI _ _ | exact hxI2 _ _ | exact hIa _ _ | exact hIb _ _ | exact g_b32 | exact g_and32 | assumption | exact ⟨by omega, by omega⟩) (fun c3 => ?_) (fun c3 => ?_)
      · skip
        refine g_iload_n hc dX13_self_50 rfl ?_
        refine g_bipush hc dX13_self_51 (by decide +kernel) ?_
        refine g_icmp_ge (tgt := 75) hc dX13_self_53 (by decide) (by first | exact hI _ _ | exact hxI2 _ _ | exact hIa _ _ | exact hIb _ _ | exact g_b32 | exact g_and32 | assumption | exact ⟨by omega, by omega⟩) (by first | exact hI _ _ | exact hxI2 _ _ | exact hIa _ _ | exact hIb _ _ | exact g_b32 | exact g_and32 | assumption | exact ⟨by omega, by omega⟩) (fun c4 => ?_) (fun c4 => ?_)
        · skip
          refine g_iload_n hc dX13_self_75 rfl ?_
          refine g_bipush hc dX13_self_76 (by decide +kernel) ?_
          refine g_icmp_ne (tgt := 87) hc dX13_self_78 (by decide) (by first | exact hI _ _ | exact hxI2 _ _ | exact hIa _ _ | exact hIb _ _ | exact g_b32 | exact g_and32 | assumption | exact ⟨by omega, by omega⟩) (by first | exact hI _ _ | exact hxI2 _ _ | exact hIa _ _ | exact hIb _ _ | exact g_b32 | exact g_and32 | assumption | exact ⟨by omega, by omega⟩) (fun c5 => ?_) (fun c5 => ?_)
          · skip
            refine g_iload_n hc dX13_self_87 rfl ?_
            refine g_bipush hc dX13_self_88 (by decide +kernel) ?_
            refine g_icmp_ne (tgt := 107) hc dX13_self_90 (by decide) (by first | exact hI _ _ | exact hxI2 _ _ | exact hIa _ _ | exact hIb _ _ | exact g_b32 | exact g_and32 | assumption | exact ⟨by omega, by omega⟩) (by first | exact hI _ _ | exact hxI2 _ _ | exact hIa _ _ | exact hIb _ _ | exact g_b32 | exact g_and32 | assumption | exact ⟨by omega, by omega⟩) (fun c6 => ?_) (fun c6 => ?_)
            · skip
              refine g_aldn hc dX13_self_107 rfl ?_
              refine g_aldn hc dX13_self_108 rfl ?_
              refine g_getIe hc lk_X13_52 ca_703 24 rfl (show I3 703 24 = I 0 12 from hmI3.tab) dX13_self_109 ?_
              refine g_iload_n hc dX13_self_112 rfl ?_
              refine g_V2 hc (c_X13_layWay w hR hmI3 (q_lfS hmI3 (by omega)) (by omega) (by omega)) my_X13_layWay mv_X13_layWay ca_703 rfl rfl lm_X13_310 rfl (by decide) (Nat.le_of_ble_eq_true rfl) hm dX13_self_113 (fun r4 n4 I4 J4 R4 hp4 => ?_)
              obtain ⟨⟨rfl, rfl, hK4, hX4, rfl, t4, hR⟩, hwI4⟩ := hp4
              have hmI4 : q_rel I lb I4 := q_cg (fun k j hk => hK4 k j (fun z => hk (x_wa z))) hX4 hmI3
              have hfI4 : ∀ (k : Nat) (j : Int), ¬ x_a k j → I4 k j = M k j := fun k j hk => (hK4 k j (fun z => hk (x_wa z))).trans (hfI3 k j hk)
              have htI4 : I4 703 0 = (if ((0 ≤ s ∧ s < I lb 0) ∧ 0 ≤ k ∧ k ≤ 8) then (0 : Int) else 1) := (hK4 703 0 (by unfold x_w; omega)).trans htI3
              refine g_aldn hc dX13_self_116 rfl ?_
              refine g_getIe hc lk_X13_307 ca_703 29 rfl (show I4 703 29 = I (lb + 14) s from hwI4.1) dX13_self_117 ?_
              refine g_iret hc hm dX13_self_120 ?_
              exact ⟨x_end (by rw [if_pos hg, x_slf, if_neg (by omega), if_neg (by omega)]) hfI4 hmI4.g hR, htI4⟩
            · skip
              refine g_aldn hc dX13_self_93 rfl ?_
              refine g_iload_n hc dX13_self_94 rfl ?_
              refine g_V1 hc (c_X13_isThere w hR hmI3 (by omega)) my_X13_isThere mv_X13_isThere ca_703 rfl rfl lm_X13_324 rfl (by decide) (Nat.le_of_ble_eq_true rfl) hm dX13_self_95 (fun r5 n5 I5 J5 R5 hp5 => ?_)
              obtain ⟨rfl, rfl, hK5, hX5, rfl, t5, hR⟩ := hp5
              have hmI5 : q_rel I lb I5 := q_cg (fun k j hk => hK5 k j (fun z => hk (x_wa z))) hX5 hmI3
              have hfI5 : ∀ (k : Nat) (j : Int), ¬ x_a k j → I5 k j = M k j := fun k j hk => (hK5 k j (fun z => hk (x_wa z))).trans (hfI3 k j hk)
              have htI5 : I5 703 0 = (if ((0 ≤ s ∧ s < I lb 0) ∧ 0 ≤ k ∧ k ≤ 8) then (0 : Int) else 1) := (hK5 703 0 (by unfold x_w; omega)).trans htI3
              refine g_ifb_eq (tgt := 105) hc dX13_self_98 (by decide)  (fun c7 => ?_) (fun c7 => ?_)
              · skip
                refine g_iconst hc dX13_self_105 ?_
                refine g_iret hc hm dX13_self_106 ?_
                exact ⟨x_end (by rw [if_pos hg, x_slf, if_neg (by omega), if_pos (by omega), g_b0 (by assumption)]) hfI5 hmI5.g hR, htI5⟩
              · skip
                refine g_iconst hc dX13_self_101 ?_
                refine g_goto (tgt := 106) hc dX13_self_102 (by decide) ?_
                refine g_iret hc hm dX13_self_106 ?_
                exact ⟨x_end (by rw [if_pos hg, x_slf, if_neg (by omega), if_pos (by omega), g_b1 (by assumption)]) hfI5 hmI5.g hR, htI5⟩
          · skip
            refine g_aldn hc dX13_self_81 rfl ?_
            refine g_iload_n hc dX13_self_82 rfl ?_
            refine g_V1 hc (c_X13_factsOf w hR hmI3 (by omega)) my_X13_factsOf mv_X13_factsOf ca_703 rfl rfl lm_X13_321 rfl (by decide) (Nat.le_of_ble_eq_true rfl) hm dX13_self_83 (fun r6 n6 I6 J6 R6 hp6 => ?_)
            obtain ⟨rfl, rfl, hK6, hX6, rfl, t6, hR⟩ := hp6
            have hmI6 : q_rel I lb I6 := q_cg (fun k j hk => hK6 k j (fun z => hk (x_wa z))) hX6 hmI3
            have hfI6 : ∀ (k : Nat) (j : Int), ¬ x_a k j → I6 k j = M k j := fun k j hk => (hK6 k j (fun z => hk (x_wa z))).trans (hfI3 k j hk)
            have htI6 : I6 703 0 = (if ((0 ≤ s ∧ s < I lb 0) ∧ 0 ≤ k ∧ k ≤ 8) then (0 : Int) else 1) := (hK6 703 0 (by unfold x_w; omega)).trans htI3
            refine g_iret hc hm dX13_self_86 ?_
            exact ⟨x_end (by rw [if_pos hg, x_slf, if_pos (by omega), show k = 6 by omega]) hfI6 hmI6.g hR, htI6⟩
        · skip
          refine g_aldn hc dX13_self_56 rfl ?_
          refine g_getRk hc lk_X13_37 ca_703 (rc_703_18 hR) dX13_self_57 ?_
          refine g_aldn hc dX13_self_60 rfl ?_
          refine g_aldn hc dX13_self_61 rfl ?_
          refine g_getIe hc lk_X13_52 ca_703 24 rfl (show I3 703 24 = I 0 12 from hmI3.tab) dX13_self_62 ?_
          refine g_iload_n hc dX13_self_65 rfl ?_
          refine g_V2r hc (c_X13_leafAt w) my_X13_leafAt mv_X13_leafAt ca_703 rfl rfl lm_X13_235 rfl (by decide) (Nat.le_of_ble_eq_true rfl) hm dX13_self_66 ?_
          refine g_iload_n hc dX13_self_69 rfl ?_
          refine g_iadd hc dX13_self_70 ?_
          refine g_iconst hc dX13_self_71 ?_
          refine g_isub hc dX13_self_72 ?_
          refine g_ialde hc ca_708 (by decide) (by omega) (by omega) (show I3 708 (((((I 0 12) * 12 + s) * 7) + k) - 1) = I (lb + 2 + s.toNat) k from q_lfk hmI3 (by omega) (by omega)) dX13_self_73 ?_
          refine g_iret hc hm dX13_self_74 ?_
          exact ⟨x_end (by rw [if_pos hg, x_slf, if_pos (by omega)]) hfI3 hmI3.g hR, htI3⟩
      · skip
        refine g_aldn hc dX13_self_43 rfl ?_
        refine g_iload_n hc dX13_self_44 rfl ?_
        refine g_iload_n hc dX13_self_45 rfl ?_
        refine g_V2 hc (c_X13_hasOf w hR hmI3 (by omega) (by omega)) my_X13_hasOf mv_X13_hasOf ca_703 rfl rfl lm_X13_318 rfl (by decide) (Nat.le_of_ble_eq_true rfl) hm dX13_self_46 (fun r7 n7 I7 J7 R7 hp7 => ?_)
        obtain ⟨⟨rfl, rfl, hK7, hX7, rfl, t7, hR⟩, hwI7⟩ := hp7
        have hmI7 : q_rel I lb I7 := q_cg (fun k j hk => hK7 k j (fun z => hk (x_wa z))) hX7 hmI3
        have hfI7 : ∀ (k : Nat) (j : Int), ¬ x_a k j → I7 k j = M k j := fun k j hk => (hK7 k j (fun z => hk (x_wa z))).trans (hfI3 k j hk)
        have htI7 : I7 703 0 = (if ((0 ≤ s ∧ s < I lb 0) ∧ 0 ≤ k ∧ k ≤ 8) then (0 : Int) else 1) := (hK7 703 0 (by unfold x_w; omega)).trans htI3
        refine g_iret hc hm dX13_self_49 ?_
        exact ⟨x_end (by rw [if_pos hg, x_slf, if_pos (by omega)]) hfI7 hmI7.g hR, htI7⟩
    · skip
      have hg : ¬ ((0 ≤ s ∧ s < I lb 0) ∧ 0 ≤ k ∧ k ≤ 8) := fun z => by
        have c9 : ¬ (if ((0 ≤ s ∧ s < I lb 0) ∧ 0 ≤ k ∧ k ≤ 8) then (0 : Int) else 1) ≤ 0 := by omega
        rw [if_pos z] at c9; omega
      refine g_iconst hc dX13_self_36 ?_
      refine g_iret hc hm dX13_self_37 ?_
      exact ⟨x_end (by rw [if_neg hg]) hfI3 hmI3.g hR, htI3⟩
  · skip
    refine g_iload_n hc dX13_self_9 rfl ?_
    refine g_i2l hc dX13_self_10 (by first | exact hI _ _ | exact hxI2 _ _ | exact hIa _ _ | exact hIb _ _ | exact g_b32 | exact g_and32 | assumption | exact ⟨by omega, by omega⟩) ?_
    refine g_lconst hc dX13_self_11 0 (by decide +kernel) ?_
    refine g_ldc2 (k := 8) hc dX13_self_12 _ lc_X13_316 (by decide +kernel) ?_
    refine g_S3r hc (c_X13_isIn w (by first | exact hI _ _ | exact hmM.g _ _ | exact g_b32 | exact g_and32 | exact g_or32 | exact g_shl32 | assumption | exact ⟨by omega, by omega⟩) (by first | exact hI _ _ | exact hmM.g _ _ | exact g_b32 | exact g_and32 | exact g_or32 | exact g_shl32 | assumption | exact ⟨by omega, by omega⟩) (by first | exact hI _ _ | exact hmM.g _ _ | exact g_b32 | exact g_and32 | exact g_or32 | exact g_shl32 | assumption | exact ⟨by omega, by omega⟩)) my_X13_isIn ms_X13_isIn lm_X13_231 rfl (by decide) (Nat.le_of_ble_eq_true rfl) hm dX13_self_15 ?_
    refine g_ifb_eq (tgt := 25) hc dX13_self_18 (by decide)  (fun c8 => ?_) (fun c8 => ?_)
    · skip
      refine g_iconst hc dX13_self_25 ?_
      refine g_putI' hc lk_X13_102 ca_703 0 rfl dX13_self_26 (fun I8 hI8 => ?_)
      have hmI8 : q_rel I lb I8 := by rw [hI8]; exact q_up hmM (by unfold x_a; omega) (by first | exact hI _ _ | exact hmM.g _ _ | exact g_b32 | exact g_and32 | exact g_or32 | exact g_shl32 | assumption | exact ⟨by omega, by omega⟩)
      have hfI8 : ∀ (k : Nat) (j : Int), ¬ x_a k j → I8 k j = M k j := fun k j hk => by rw [hI8]; exact (g_up_n (by unfold x_a at hk; omega)).trans (hfM k j hk)
      have htI8 : I8 703 0 = (if ((0 ≤ s ∧ s < I lb 0) ∧ 0 ≤ k ∧ k ≤ 8) then (0 : Int) else 1) := by rw [hI8, g_up_s]; first | rw [if_pos (by omega)] | rw [if_neg (by omega)]
      refine g_aldn hc dX13_self_29 rfl ?_
      refine g_getIe hc lk_X13_102 ca_703 0 rfl (show I8 703 0 = (if ((0 ≤ s ∧ s < I lb 0) ∧ 0 ≤ k ∧ k ≤ 8) then (0 : Int) else 1) from htI8) dX13_self_30 ?_
      refine g_if_le (tgt := 38) hc dX13_self_33 (by decide) (by split <;> exact ⟨by decide, by decide⟩) (fun c9 => ?_) (fun c9 => ?_)
      · skip
        have hg : ((0 ≤ s ∧ s < I lb 0) ∧ 0 ≤ k ∧ k ≤ 8) := by
          by_cases z : ((0 ≤ s ∧ s < I lb 0) ∧ 0 ≤ k ∧ k ≤ 8)
          · exact z
          · have c9 : (if ((0 ≤ s ∧ s < I lb 0) ∧ 0 ≤ k ∧ k ≤ 8) then (0 : Int) else 1) ≤ 0 := c9
            rw [if_neg z] at c9; omega
        have hTs := q_ts hmM (by omega)
        have h1 : 0 ≤ s ∧ s < I lb 0 := hg.1
        refine g_iload_n hc dX13_self_38 rfl ?_
        refine g_iconst hc dX13_self_39 ?_
        refine g_icmp_ge (tgt := 50) hc dX13_self_40 (by decide) (by first | exact hI _ _ | exact hxI2 _ _ | exact hIa _ _ | exact hIb _ _ | exact g_b32 | exact g_and32 | assumption | exact ⟨by omega, by omega⟩) (by first | exact hI _ _ | exact hxI2 _ _ | exact hIa _ _ | exact hIb _ _ | exact g_b32 | exact g_and32 | assumption | exact ⟨by omega, by omega⟩) (fun c10 => ?_) (fun c10 => ?_)
        · skip
          refine g_iload_n hc dX13_self_50 rfl ?_
          refine g_bipush hc dX13_self_51 (by decide +kernel) ?_
          refine g_icmp_ge (tgt := 75) hc dX13_self_53 (by decide) (by first | exact hI _ _ | exact hxI2 _ _ | exact hIa _ _ | exact hIb _ _ | exact g_b32 | exact g_and32 | assumption | exact ⟨by omega, by omega⟩) (by first | exact hI _ _ | exact hxI2 _ _ | exact hIa _ _ | exact hIb _ _ | exact g_b32 | exact g_and32 | assumption | exact ⟨by omega, by omega⟩) (fun c11 => ?_) (fun c11 => ?_)
          · skip
            refine g_iload_n hc dX13_self_75 rfl ?_
            refine g_bipush hc dX13_self_76 (by decide +kernel) ?_
            refine g_icmp_ne (tgt := 87) hc dX13_self_78 (by decide) (by first | exact hI _ _ | exact hxI2 _ _ | exact hIa _ _ | exact hIb _ _ | exact g_b32 | exact g_and32 | assumption | exact ⟨by omega, by omega⟩) (by first | exact hI _ _ | exact hxI2 _ _ | exact hIa _ _ | exact hIb _ _ | exact g_b32 | exact g_and32 | assumption | exact ⟨by omega, by omega⟩) (fun c12 => ?_) (fun c12 => ?_)
            · skip
              refine g_iload_n hc dX13_self_87 rfl ?_
              refine g_bipush hc dX13_self_88 (by decide +kernel) ?_
              refine g_icmp_ne (tgt := 107) hc dX13_self_90 (by decide) (by first | exact hI _ _ | exact hxI2 _ _ | exact hIa _ _ | exact hIb _ _ | exact g_b32 | exact g_and32 | assumption | exact ⟨by omega, by omega⟩) (by first | exact hI _ _ | exact hxI2 _ _ | exact hIa _ _ | exact hIb _ _ | exact g_b32 | exact g_and32 | assumption | exact ⟨by omega, by omega⟩) (fun c13 => ?_) (fun c13 => ?_)
              · skip
                refine g_aldn hc dX13_self_107 rfl ?_
                refine g_aldn hc dX13_self_108 rfl ?_
                refine g_getIe hc lk_X13_52 ca_703 24 rfl (show I8 703 24 = I 0 12 from hmI8.tab) dX13_self_109 ?_
                refine g_iload_n hc dX13_self_112 rfl ?_
                refine g_V2 hc (c_X13_layWay w hR hmI8 (q_lfS hmI8 (by omega)) (by omega) (by omega)) my_X13_layWay mv_X13_layWay ca_703 rfl rfl lm_X13_310 rfl (by decide) (Nat.le_of_ble_eq_true rfl) hm dX13_self_113 (fun r9 n9 I9 J9 R9 hp9 => ?_)
                obtain ⟨⟨rfl, rfl, hK9, hX9, rfl, t9, hR⟩, hwI9⟩ := hp9
                have hmI9 : q_rel I lb I9 := q_cg (fun k j hk => hK9 k j (fun z => hk (x_wa z))) hX9 hmI8
                have hfI9 : ∀ (k : Nat) (j : Int), ¬ x_a k j → I9 k j = M k j := fun k j hk => (hK9 k j (fun z => hk (x_wa z))).trans (hfI8 k j hk)
                have htI9 : I9 703 0 = (if ((0 ≤ s ∧ s < I lb 0) ∧ 0 ≤ k ∧ k ≤ 8) then (0 : Int) else 1) := (hK9 703 0 (by unfold x_w; omega)).trans htI8
                refine g_aldn hc dX13_self_116 rfl ?_
                refine g_getIe hc lk_X13_307 ca_703 29 rfl (show I9 703 29 = I (lb + 14) s from hwI9.1) dX13_self_117 ?_
                refine g_iret hc hm dX13_self_120 ?_
                exact ⟨x_end (by rw [if_pos hg, x_slf, if_neg (by omega), if_neg (by omega)]) hfI9 hmI9.g hR, htI9⟩
              · skip
                refine g_aldn hc dX13_self_93 rfl ?_
                refine g_iload_n hc dX13_self_94 rfl ?_
                refine g_V1 hc (c_X13_isThere w hR hmI8 (by omega)) my_X13_isThere mv_X13_isThere ca_703 rfl rfl lm_X13_324 rfl (by decide) (Nat.le_of_ble_eq_true rfl) hm dX13_self_95 (fun r10 n10 I10 J10 R10 hp10 => ?_)
                obtain ⟨rfl, rfl, hK10, hX10, rfl, t10, hR⟩ := hp10
                have hmI10 : q_rel I lb I10 := q_cg (fun k j hk => hK10 k j (fun z => hk (x_wa z))) hX10 hmI8
                have hfI10 : ∀ (k : Nat) (j : Int), ¬ x_a k j → I10 k j = M k j := fun k j hk => (hK10 k j (fun z => hk (x_wa z))).trans (hfI8 k j hk)
                have htI10 : I10 703 0 = (if ((0 ≤ s ∧ s < I lb 0) ∧ 0 ≤ k ∧ k ≤ 8) then (0 : Int) else 1) := (hK10 703 0 (by unfold x_w; omega)).trans htI8
                refine g_ifb_eq (tgt := 105) hc dX13_self_98 (by decide)  (fun c14 => ?_) (fun c14 => ?_)
                · skip
                  refine g_iconst hc dX13_self_105 ?_
                  refine g_iret hc hm dX13_self_106 ?_
                  exact ⟨x_end (by rw [if_pos hg, x_slf, if_neg (by omega), if_pos (by omega), g_b0 (by assumption)]) hfI10 hmI10.g hR, htI10⟩
                · skip
                  refine g_iconst hc dX13_self_101 ?_
                  refine g_goto (tgt := 106) hc dX13_self_102 (by decide) ?_
                  refine g_iret hc hm dX13_self_106 ?_
                  exact ⟨x_end (by rw [if_pos hg, x_slf, if_neg (by omega), if_pos (by omega), g_b1 (by assumption)]) hfI10 hmI10.g hR, htI10⟩
            · skip
              refine g_aldn hc dX13_self_81 rfl ?_
              refine g_iload_n hc dX13_self_82 rfl ?_
              refine g_V1 hc (c_X13_factsOf w hR hmI8 (by omega)) my_X13_factsOf mv_X13_factsOf ca_703 rfl rfl lm_X13_321 rfl (by decide) (Nat.le_of_ble_eq_true rfl) hm dX13_self_83 (fun r11 n11 I11 J11 R11 hp11 => ?_)
              obtain ⟨rfl, rfl, hK11, hX11, rfl, t11, hR⟩ := hp11
              have hmI11 : q_rel I lb I11 := q_cg (fun k j hk => hK11 k j (fun z => hk (x_wa z))) hX11 hmI8
              have hfI11 : ∀ (k : Nat) (j : Int), ¬ x_a k j → I11 k j = M k j := fun k j hk => (hK11 k j (fun z => hk (x_wa z))).trans (hfI8 k j hk)
              have htI11 : I11 703 0 = (if ((0 ≤ s ∧ s < I lb 0) ∧ 0 ≤ k ∧ k ≤ 8) then (0 : Int) else 1) := (hK11 703 0 (by unfold x_w; omega)).trans htI8
              refine g_iret hc hm dX13_self_86 ?_
              exact ⟨x_end (by rw [if_pos hg, x_slf, if_pos (by omega), show k = 6 by omega]) hfI11 hmI11.g hR, htI11⟩
          · skip
            refine g_aldn hc dX13_self_56 rfl ?_
            refine g_getRk hc lk_X13_37 ca_703 (rc_703_18 hR) dX13_self_57 ?_
            refine g_aldn hc dX13_self_60 rfl ?_
            refine g_aldn hc dX13_self_61 rfl ?_
            refine g_getIe hc lk_X13_52 ca_703 24 rfl (show I8 703 24 = I 0 12 from hmI8.tab) dX13_self_62 ?_
            refine g_iload_n hc dX13_self_65 rfl ?_
            refine g_V2r hc (c_X13_leafAt w) my_X13_leafAt mv_X13_leafAt ca_703 rfl rfl lm_X13_235 rfl (by decide) (Nat.le_of_ble_eq_true rfl) hm dX13_self_66 ?_
            refine g_iload_n hc dX13_self_69 rfl ?_
            refine g_iadd hc dX13_self_70 ?_
            refine g_iconst hc dX13_self_71 ?_
            refine g_isub hc dX13_self_72 ?_
            refine g_ialde hc ca_708 (by decide) (by omega) (by omega) (show I8 708 (((((I 0 12) * 12 + s) * 7) + k) - 1) = I (lb + 2 + s.toNat) k from q_lfk hmI8 (by omega) (by omega)) dX13_self_73 ?_
            refine g_iret hc hm dX13_self_74 ?_
            exact ⟨x_end (by rw [if_pos hg, x_slf, if_pos (by omega)]) hfI8 hmI8.g hR, htI8⟩
        · skip
          refine g_aldn hc dX13_self_43 rfl ?_
          refine g_iload_n hc dX13_self_44 rfl ?_
          refine g_iload_n hc dX13_self_45 rfl ?_
          refine g_V2 hc (c_X13_hasOf w hR hmI8 (by omega) (by omega)) my_X13_hasOf mv_X13_hasOf ca_703 rfl rfl lm_X13_318 rfl (by decide) (Nat.le_of_ble_eq_true rfl) hm dX13_self_46 (fun r12 n12 I12 J12 R12 hp12 => ?_)
          obtain ⟨⟨rfl, rfl, hK12, hX12, rfl, t12, hR⟩, hwI12⟩ := hp12
          have hmI12 : q_rel I lb I12 := q_cg (fun k j hk => hK12 k j (fun z => hk (x_wa z))) hX12 hmI8
          have hfI12 : ∀ (k : Nat) (j : Int), ¬ x_a k j → I12 k j = M k j := fun k j hk => (hK12 k j (fun z => hk (x_wa z))).trans (hfI8 k j hk)
          have htI12 : I12 703 0 = (if ((0 ≤ s ∧ s < I lb 0) ∧ 0 ≤ k ∧ k ≤ 8) then (0 : Int) else 1) := (hK12 703 0 (by unfold x_w; omega)).trans htI8
          refine g_iret hc hm dX13_self_49 ?_
          exact ⟨x_end (by rw [if_pos hg, x_slf, if_pos (by omega)]) hfI12 hmI12.g hR, htI12⟩
      · skip
        have hg : ¬ ((0 ≤ s ∧ s < I lb 0) ∧ 0 ≤ k ∧ k ≤ 8) := fun z => by
          have c9 : ¬ (if ((0 ≤ s ∧ s < I lb 0) ∧ 0 ≤ k ∧ k ≤ 8) then (0 : Int) else 1) ≤ 0 := by omega
          rw [if_pos z] at c9; omega
        refine g_iconst hc dX13_self_36 ?_
        refine g_iret hc hm dX13_self_37 ?_
        exact ⟨x_end (by rw [if_neg hg]) hfI8 hmI8.g hR, htI8⟩
    · skip
      refine g_iconst hc dX13_self_21 ?_
      refine g_goto (tgt := 26) hc dX13_self_22 (by decide) ?_
      refine g_putI' hc lk_X13_102 ca_703 0 rfl dX13_self_26 (fun I13 hI13 => ?_)
      have hmI13 : q_rel I lb I13 := by rw [hI13]; exact q_up hmM (by unfold x_a; omega) (by first | exact hI _ _ | exact hmM.g _ _ | exact g_b32 | exact g_and32 | exact g_or32 | exact g_shl32 | assumption | exact ⟨by omega, by omega⟩)
      have hfI13 : ∀ (k : Nat) (j : Int), ¬ x_a k j → I13 k j = M k j := fun k j hk => by rw [hI13]; exact (g_up_n (by unfold x_a at hk; omega)).trans (hfM k j hk)
      have htI13 : I13 703 0 = (if ((0 ≤ s ∧ s < I lb 0) ∧ 0 ≤ k ∧ k ≤ 8) then (0 : Int) else 1) := by rw [hI13, g_up_s]; first | rw [if_pos (by omega)] | rw [if_neg (by omega)]
      refine g_aldn hc dX13_self_29 rfl ?_
      refine g_getIe hc lk_X13_102 ca_703 0 rfl (show I13 703 0 = (if ((0 ≤ s ∧ s < I lb 0) ∧ 0 ≤ k ∧ k ≤ 8) then (0 : Int) else 1) from htI13) dX13_self_30 ?_
      refine g_if_le (tgt := 38) hc dX13_self_33 (by decide) (by split <;> exact ⟨by decide, by decide⟩) (fun c15 => ?_) (fun c15 => ?_)
      · skip
        have hg : ((0 ≤ s ∧ s < I lb 0) ∧ 0 ≤ k ∧ k ≤ 8) := by
          by_cases z : ((0 ≤ s ∧ s < I lb 0) ∧ 0 ≤ k ∧ k ≤ 8)
          · exact z
          · have c9 : (if ((0 ≤ s ∧ s < I lb 0) ∧ 0 ≤ k ∧ k ≤ 8) then (0 : Int) else 1) ≤ 0 := c15
            rw [if_neg z] at c9; omega
        have hTs := q_ts hmM (by omega)
        have h1 : 0 ≤ s ∧ s < I lb 0 := hg.1
        refine g_iload_n hc dX13_self_38 rfl ?_
        refine g_iconst hc dX13_self_39 ?_
        refine g_icmp_ge (tgt := 50) hc dX13_self_40 (by decide) (by first | exact hI _ _ | exact hxI2 _ _ | exact hIa _ _ | exact hIb _ _ | exact g_b32 | exact g_and32 | assumption | exact ⟨by omega, by omega⟩) (by first | exact hI _ _ | exact hxI2 _ _ | exact hIa _ _ | exact hIb _ _ | exact g_b32 | exact g_and32 | assumption | exact ⟨by omega, by omega⟩) (fun c16 => ?_) (fun c16 => ?_)
        · skip
          refine g_iload_n hc dX13_self_50 rfl ?_
          refine g_bipush hc dX13_self_51 (by decide +kernel) ?_
          refine g_icmp_ge (tgt := 75) hc dX13_self_53 (by decide) (by first | exact hI _ _ | exact hxI2 _ _ | exact hIa _ _ | exact hIb _ _ | exact g_b32 | exact g_and32 | assumption | exact ⟨by omega, by omega⟩) (by first | exact hI _ _ | exact hxI2 _ _ | exact hIa _ _ | exact hIb _ _ | exact g_b32 | exact g_and32 | assumption | exact ⟨by omega, by omega⟩) (fun c17 => ?_) (fun c17 => ?_)
          · skip
            refine g_iload_n hc dX13_self_75 rfl ?_
            refine g_bipush hc dX13_self_76 (by decide +kernel) ?_
            refine g_icmp_ne (tgt := 87) hc dX13_self_78 (by decide) (by first | exact hI _ _ | exact hxI2 _ _ | exact hIa _ _ | exact hIb _ _ | exact g_b32 | exact g_and32 | assumption | exact ⟨by omega, by omega⟩) (by first | exact hI _ _ | exact hxI2 _ _ | exact hIa _ _ | exact hIb _ _ | exact g_b32 | exact g_and32 | assumption | exact ⟨by omega, by omega⟩) (fun c18 => ?_) (fun c18 => ?_)
            · skip
              refine g_iload_n hc dX13_self_87 rfl ?_
              refine g_bipush hc dX13_self_88 (by decide +kernel) ?_
              refine g_icmp_ne (tgt := 107) hc dX13_self_90 (by decide) (by first | exact hI _ _ | exact hxI2 _ _ | exact hIa _ _ | exact hIb _ _ | exact g_b32 | exact g_and32 | assumption | exact ⟨by omega, by omega⟩) (by first | exact hI _ _ | exact hxI2 _ _ | exact hIa _ _ | exact hIb _ _ | exact g_b32 | exact g_and32 | assumption | exact ⟨by omega, by omega⟩) (fun c19 => ?_) (fun c19 => ?_)
              · skip
                refine g_aldn hc dX13_self_107 rfl ?_
                refine g_aldn hc dX13_self_108 rfl ?_
                refine g_getIe hc lk_X13_52 ca_703 24 rfl (show I13 703 24 = I 0 12 from hmI13.tab) dX13_self_109 ?_
                refine g_iload_n hc dX13_self_112 rfl ?_
                refine g_V2 hc (c_X13_layWay w hR hmI13 (q_lfS hmI13 (by omega)) (by omega) (by omega)) my_X13_layWay mv_X13_layWay ca_703 rfl rfl lm_X13_310 rfl (by decide) (Nat.le_of_ble_eq_true rfl) hm dX13_self_113 (fun r14 n14 I14 J14 R14 hp14 => ?_)
                obtain ⟨⟨rfl, rfl, hK14, hX14, rfl, t14, hR⟩, hwI14⟩ := hp14
                have hmI14 : q_rel I lb I14 := q_cg (fun k j hk => hK14 k j (fun z => hk (x_wa z))) hX14 hmI13
                have hfI14 : ∀ (k : Nat) (j : Int), ¬ x_a k j → I14 k j = M k j := fun k j hk => (hK14 k j (fun z => hk (x_wa z))).trans (hfI13 k j hk)
                have htI14 : I14 703 0 = (if ((0 ≤ s ∧ s < I lb 0) ∧ 0 ≤ k ∧ k ≤ 8) then (0 : Int) else 1) := (hK14 703 0 (by unfold x_w; omega)).trans htI13
                refine g_aldn hc dX13_self_116 rfl ?_
                refine g_getIe hc lk_X13_307 ca_703 29 rfl (show I14 703 29 = I (lb + 14) s from hwI14.1) dX13_self_117 ?_
                refine g_iret hc hm dX13_self_120 ?_
                exact ⟨x_end (by rw [if_pos hg, x_slf, if_neg (by omega), if_neg (by omega)]) hfI14 hmI14.g hR, htI14⟩
              · skip
                refine g_aldn hc dX13_self_93 rfl ?_
                refine g_iload_n hc dX13_self_94 rfl ?_
                refine g_V1 hc (c_X13_isThere w hR hmI13 (by omega)) my_X13_isThere mv_X13_isThere ca_703 rfl rfl lm_X13_324 rfl (by decide) (Nat.le_of_ble_eq_true rfl) hm dX13_self_95 (fun r15 n15 I15 J15 R15 hp15 => ?_)
                obtain ⟨rfl, rfl, hK15, hX15, rfl, t15, hR⟩ := hp15
                have hmI15 : q_rel I lb I15 := q_cg (fun k j hk => hK15 k j (fun z => hk (x_wa z))) hX15 hmI13
                have hfI15 : ∀ (k : Nat) (j : Int), ¬ x_a k j → I15 k j = M k j := fun k j hk => (hK15 k j (fun z => hk (x_wa z))).trans (hfI13 k j hk)
                have htI15 : I15 703 0 = (if ((0 ≤ s ∧ s < I lb 0) ∧ 0 ≤ k ∧ k ≤ 8) then (0 : Int) else 1) := (hK15 703 0 (by unfold x_w; omega)).trans htI13
                refine g_ifb_eq (tgt := 105) hc dX13_self_98 (by decide)  (fun c20 => ?_) (fun c20 => ?_)
                · skip
                  refine g_iconst hc dX13_self_105 ?_
                  refine g_iret hc hm dX13_self_106 ?_
                  exact ⟨x_end (by rw [if_pos hg, x_slf, if_neg (by omega), if_pos (by omega), g_b0 (by assumption)]) hfI15 hmI15.g hR, htI15⟩
                · skip
                  refine g_iconst hc dX13_self_101 ?_
                  refine g_goto (tgt := 106) hc dX13_self_102 (by decide) ?_
                  refine g_iret hc hm dX13_self_106 ?_
                  exact ⟨x_end (by rw [if_pos hg, x_slf, if_neg (by omega), if_pos (by omega), g_b1 (by assumption)]) hfI15 hmI15.g hR, htI15⟩
            · skip
              refine g_aldn hc dX13_self_81 rfl ?_
              refine g_iload_n hc dX13_self_82 rfl ?_
              refine g_V1 hc (c_X13_factsOf w hR hmI13 (by omega)) my_X13_factsOf mv_X13_factsOf ca_703 rfl rfl lm_X13_321 rfl (by decide) (Nat.le_of_ble_eq_true rfl) hm dX13_self_83 (fun r16 n16 I16 J16 R16 hp16 => ?_)
              obtain ⟨rfl, rfl, hK16, hX16, rfl, t16, hR⟩ := hp16
              have hmI16 : q_rel I lb I16 := q_cg (fun k j hk => hK16 k j (fun z => hk (x_wa z))) hX16 hmI13
              have hfI16 : ∀ (k : Nat) (j : Int), ¬ x_a k j → I16 k j = M k j := fun k j hk => (hK16 k j (fun z => hk (x_wa z))).trans (hfI13 k j hk)
              have htI16 : I16 703 0 = (if ((0 ≤ s ∧ s < I lb 0) ∧ 0 ≤ k ∧ k ≤ 8) then (0 : Int) else 1) := (hK16 703 0 (by unfold x_w; omega)).trans htI13
              refine g_iret hc hm dX13_self_86 ?_
              exact ⟨x_end (by rw [if_pos hg, x_slf, if_pos (by omega), show k = 6 by omega]) hfI16 hmI16.g hR, htI16⟩
          · skip
            refine g_aldn hc dX13_self_56 rfl ?_
            refine g_getRk hc lk_X13_37 ca_703 (rc_703_18 hR) dX13_self_57 ?_
            refine g_aldn hc dX13_self_60 rfl ?_
            refine g_aldn hc dX13_self_61 rfl ?_
            refine g_getIe hc lk_X13_52 ca_703 24 rfl (show I13 703 24 = I 0 12 from hmI13.tab) dX13_self_62 ?_
            refine g_iload_n hc dX13_self_65 rfl ?_
            refine g_V2r hc (c_X13_leafAt w) my_X13_leafAt mv_X13_leafAt ca_703 rfl rfl lm_X13_235 rfl (by decide) (Nat.le_of_ble_eq_true rfl) hm dX13_self_66 ?_
            refine g_iload_n hc dX13_self_69 rfl ?_
            refine g_iadd hc dX13_self_70 ?_
            refine g_iconst hc dX13_self_71 ?_
            refine g_isub hc dX13_self_72 ?_
            refine g_ialde hc ca_708 (by decide) (by omega) (by omega) (show I13 708 (((((I 0 12) * 12 + s) * 7) + k) - 1) = I (lb + 2 + s.toNat) k from q_lfk hmI13 (by omega) (by omega)) dX13_self_73 ?_
            refine g_iret hc hm dX13_self_74 ?_
            exact ⟨x_end (by rw [if_pos hg, x_slf, if_pos (by omega)]) hfI13 hmI13.g hR, htI13⟩
        · skip
          refine g_aldn hc dX13_self_43 rfl ?_
          refine g_iload_n hc dX13_self_44 rfl ?_
          refine g_iload_n hc dX13_self_45 rfl ?_
          refine g_V2 hc (c_X13_hasOf w hR hmI13 (by omega) (by omega)) my_X13_hasOf mv_X13_hasOf ca_703 rfl rfl lm_X13_318 rfl (by decide) (Nat.le_of_ble_eq_true rfl) hm dX13_self_46 (fun r17 n17 I17 J17 R17 hp17 => ?_)
          obtain ⟨⟨rfl, rfl, hK17, hX17, rfl, t17, hR⟩, hwI17⟩ := hp17
          have hmI17 : q_rel I lb I17 := q_cg (fun k j hk => hK17 k j (fun z => hk (x_wa z))) hX17 hmI13
          have hfI17 : ∀ (k : Nat) (j : Int), ¬ x_a k j → I17 k j = M k j := fun k j hk => (hK17 k j (fun z => hk (x_wa z))).trans (hfI13 k j hk)
          have htI17 : I17 703 0 = (if ((0 ≤ s ∧ s < I lb 0) ∧ 0 ≤ k ∧ k ≤ 8) then (0 : Int) else 1) := (hK17 703 0 (by unfold x_w; omega)).trans htI13
          refine g_iret hc hm dX13_self_49 ?_
          exact ⟨x_end (by rw [if_pos hg, x_slf, if_pos (by omega)]) hfI17 hmI17.g hR, htI17⟩
      · skip
        have hg : ¬ ((0 ≤ s ∧ s < I lb 0) ∧ 0 ≤ k ∧ k ≤ 8) := fun z => by
          have c9 : ¬ (if ((0 ≤ s ∧ s < I lb 0) ∧ 0 ≤ k ∧ k ≤ 8) then (0 : Int) else 1) ≤ 0 := by omega
          rw [if_pos z] at c9; omega
        refine g_iconst hc dX13_self_36 ?_
        refine g_iret hc hm dX13_self_37 ?_
        exact ⟨x_end (by rw [if_neg hg]) hfI13 hmI13.g hR, htI13⟩
set_option maxHeartbeats 4000000 in
set_option maxRecDepth 100000 in
/-- X13_count -/
theorem c_X13_count (w : g_W) {I : g_I} {J : g_J} {R : g_R} {lb tx : Nat} (hR : g_rf w R lb tx) {M : g_I} (hmM : q_rel I lb M) {k : Int} (g1 : g32 k) (hB : q_brt I M) (hA : M 703 32 = I 549 5) (hT : M 703 6 = I 1 1) : g_Met w g_n M J R yX13_count cX13_count 2 (some .int) 4 0 0 [(gvr w 703), (gvI k)] (x_rel w (some (gvI (x_cnt I lb k))) x_a M J lb) := by
  refine g_intro (own := RX13) [some (gvr w 703), some (gvI k)] (by decide +kernel) rfl (by decide) (Nat.le_of_ble_eq_true rfl) rfl (fun i v hv => g_args 0 i v hv rfl) (fun x hc hm => ?_)
  have hfM : ∀ (k : Nat) (j : Int), ¬ x_a k j → M k j = M k j := fun _ _ _ => rfl
  have hI := hmM.gi
  have hTb := q_b1 hmM
  have hLv := hmM.lv
  have hC := hmM.cin
  have hL := hC.1
  obtain ⟨hn0, hn1, hLs, hLf⟩ := id hL
  obtain ⟨-, hC1, hC2, hC3, hC4, hC5, hC6, hC7⟩ := id hC
  have hN0 := q_n0 hmM
  obtain ⟨hB1, hB2, hB3⟩ := id hB
  refine g_aldn hc dX13_count_0 rfl ?_
  refine g_iconst hc dX13_count_1 ?_
  refine g_putI' hc lk_X13_102 ca_703 0 rfl dX13_count_2 (fun I3 hI3 => ?_)
  have hmI3 : q_rel I lb I3 := by rw [hI3]; exact q_up hmM (by unfold x_a; omega) (by first | exact hI _ _ | exact hmM.g _ _ | exact g_b32 | exact g_and32 | exact g_or32 | exact g_shl32 | assumption | exact ⟨by omega, by omega⟩)
  have hfI3 : ∀ (k : Nat) (j : Int), ¬ x_a k j → I3 k j = M k j := fun k j hk => by rw [hI3]; exact (g_up_n (by unfold x_a at hk; omega)).trans (hfM k j hk)
  refine g_iload_n hc dX13_count_5 rfl ?_
  rcases (show k < 0 ∨ 13 < k ∨ k = 0 ∨ k = 1 ∨ k = 2 ∨ k = 3 ∨ k = 4 ∨ k = 5 ∨ k = 6 ∨ k = 7 ∨ k = 8 ∨ k = 9 ∨ k = 10 ∨ k = 11 ∨ k = 12 ∨ k = 13 by omega) with hsw | hsw | hsw | hsw | hsw | hsw | hsw | hsw | hsw | hsw | hsw | hsw | hsw | hsw | hsw | hsw
  · skip
    refine g_tableOut (tgt := 185) hc dX13_count_6 (by first | exact hI _ _ | exact hxI2 _ _ | exact hIa _ _ | exact hIb _ _ | exact g_b32 | exact g_and32 | assumption | exact ⟨by omega, by omega⟩) (by omega) (by decide) ?_
    refine g_ldcw (k := (-2000000000)) hc dX13_count_185 _ lc_X13_376 (by decide +kernel) ?_
    refine g_iret hc hm dX13_count_188 ?_
    exact x_end (by unfold x_cnt; rw [if_neg (by omega), if_neg (by omega), if_neg (by omega), if_neg (by omega), if_neg (by omega), if_neg (by omega), if_neg (by omega), if_neg (by omega), if_neg (by omega), if_neg (by omega), if_neg (by omega)]) hfI3 hmI3.g hR
  · skip
    refine g_tableOut (tgt := 185) hc dX13_count_6 (by first | exact hI _ _ | exact hxI2 _ _ | exact hIa _ _ | exact hIb _ _ | exact g_b32 | exact g_and32 | assumption | exact ⟨by omega, by omega⟩) (by omega) (by decide) ?_
    refine g_ldcw (k := (-2000000000)) hc dX13_count_185 _ lc_X13_376 (by decide +kernel) ?_
    refine g_iret hc hm dX13_count_188 ?_
    exact x_end (by unfold x_cnt; rw [if_neg (by omega), if_neg (by omega), if_neg (by omega), if_neg (by omega), if_neg (by omega), if_neg (by omega), if_neg (by omega), if_neg (by omega), if_neg (by omega), if_neg (by omega), if_neg (by omega)]) hfI3 hmI3.g hR
  · skip
    refine g_tableIn (tgt := 76) (off := 70) hc dX13_count_6 (by first | exact hI _ _ | exact hxI2 _ _ | exact hIa _ _ | exact hIb _ _ | exact g_b32 | exact g_and32 | assumption | exact ⟨by omega, by omega⟩) (by omega) (by omega) (by rw [hsw]; rfl) (by decide) ?_
    refine g_aldn hc dX13_count_76 rfl ?_
    refine g_getIe hc lk_X13_281 ca_703 23 rfl (show I3 703 23 = I 0 10 from hmI3.liv) dX13_count_77 ?_
    refine g_iret hc hm dX13_count_80 ?_
    exact x_end (by rw [hsw]; rfl) hfI3 hmI3.g hR
  · skip
    refine g_tableIn (tgt := 81) (off := 75) hc dX13_count_6 (by first | exact hI _ _ | exact hxI2 _ _ | exact hIa _ _ | exact hIb _ _ | exact g_b32 | exact g_and32 | assumption | exact ⟨by omega, by omega⟩) (by omega) (by omega) (by rw [hsw]; rfl) (by decide) ?_
    refine g_aldn hc dX13_count_81 rfl ?_
    refine g_getIe hc lk_X13_52 ca_703 24 rfl (show I3 703 24 = I 0 12 from hmI3.tab) dX13_count_82 ?_
    refine g_iret hc hm dX13_count_85 ?_
    exact x_end (by rw [hsw]; rfl) hfI3 hmI3.g hR
  · skip
    refine g_tableIn (tgt := 86) (off := 80) hc dX13_count_6 (by first | exact hI _ _ | exact hxI2 _ _ | exact hIa _ _ | exact hIb _ _ | exact g_b32 | exact g_and32 | assumption | exact ⟨by omega, by omega⟩) (by omega) (by omega) (by rw [hsw]; rfl) (by decide) ?_
    refine g_aldn hc dX13_count_86 rfl ?_
    refine g_getIe hc lk_X13_52 ca_703 24 rfl (show I3 703 24 = I 0 12 from hmI3.tab) dX13_count_87 ?_
    refine g_iconst hc dX13_count_90 ?_
    refine g_icmp_ne (tgt := 98) hc dX13_count_91 (by decide) (by first | exact hI _ _ | exact hxI2 _ _ | exact hIa _ _ | exact hIb _ _ | exact g_b32 | exact g_and32 | assumption | exact ⟨by omega, by omega⟩) (by first | exact hI _ _ | exact hxI2 _ _ | exact hIa _ _ | exact hIb _ _ | exact g_b32 | exact g_and32 | assumption | exact ⟨by omega, by omega⟩) (fun c1 => ?_) (fun c1 => ?_)
    · skip
      have hTs := q_ts hmM (by omega)
      refine g_aldn hc dX13_count_98 rfl ?_
      refine g_getRk hc lk_X13_46 ca_703 (rc_703_21 hR) dX13_count_99 ?_
      refine g_aldn hc dX13_count_102 rfl ?_
      refine g_getIe hc lk_X13_52 ca_703 24 rfl (show I3 703 24 = I 0 12 from hmI3.tab) dX13_count_103 ?_
      refine g_ialde hc ca_711 (by decide) (by omega) (by omega) (show I3 711 (I 0 12) = I lb 0 from q_lm hmI3 (by omega)) dX13_count_106 ?_
      refine g_iret hc hm dX13_count_107 ?_
      exact x_end (by rw [hsw]; rfl) hfI3 hmI3.g hR
    · skip
      refine g_iconst hc dX13_count_94 ?_
      refine g_goto (tgt := 107) hc dX13_count_95 (by decide) ?_
      refine g_iret hc hm dX13_count_107 ?_
      exact x_end (by rw [hsw]; show 0 = I lb 0; omega) hfI3 hmI3.g hR
  · skip
    refine g_tableIn (tgt := 108) (off := 102) hc dX13_count_6 (by first | exact hI _ _ | exact hxI2 _ _ | exact hIa _ _ | exact hIb _ _ | exact g_b32 | exact g_and32 | assumption | exact ⟨by omega, by omega⟩) (by omega) (by omega) (by rw [hsw]; rfl) (by decide) ?_
    refine g_aldn hc dX13_count_108 rfl ?_
    refine g_getIe hc lk_X13_52 ca_703 24 rfl (show I3 703 24 = I 0 12 from hmI3.tab) dX13_count_109 ?_
    refine g_iconst hc dX13_count_112 ?_
    refine g_icmp_ne (tgt := 120) hc dX13_count_113 (by decide) (by first | exact hI _ _ | exact hxI2 _ _ | exact hIa _ _ | exact hIb _ _ | exact g_b32 | exact g_and32 | assumption | exact ⟨by omega, by omega⟩) (by first | exact hI _ _ | exact hxI2 _ _ | exact hIa _ _ | exact hIb _ _ | exact g_b32 | exact g_and32 | assumption | exact ⟨by omega, by omega⟩) (fun c2 => ?_) (fun c2 => ?_)
    · skip
      have hTs := q_ts hmM (by omega)
      refine g_aldn hc dX13_count_120 rfl ?_
      refine g_getRk hc lk_X13_49 ca_703 (rc_703_22 hR) dX13_count_121 ?_
      refine g_aldn hc dX13_count_124 rfl ?_
      refine g_getIe hc lk_X13_52 ca_703 24 rfl (show I3 703 24 = I 0 12 from hmI3.tab) dX13_count_125 ?_
      refine g_ialde hc ca_712 (by decide) (by omega) (by omega) (show I3 712 (I 0 12) = I lb 1 from q_fm hmI3 (by omega)) dX13_count_128 ?_
      refine g_iret hc hm dX13_count_129 ?_
      exact x_end (by rw [hsw]; rfl) hfI3 hmI3.g hR
    · skip
      refine g_iconst hc dX13_count_116 ?_
      refine g_goto (tgt := 129) hc dX13_count_117 (by decide) ?_
      refine g_iret hc hm dX13_count_129 ?_
      exact x_end (by rw [hsw]; show 0 = I lb 1; omega) hfI3 hmI3.g hR
  · skip
    refine g_tableIn (tgt := 130) (off := 124) hc dX13_count_6 (by first | exact hI _ _ | exact hxI2 _ _ | exact hIa _ _ | exact hIb _ _ | exact g_b32 | exact g_and32 | assumption | exact ⟨by omega, by omega⟩) (by omega) (by omega) (by rw [hsw]; rfl) (by decide) ?_
    refine g_aldn hc dX13_count_130 rfl ?_
    refine g_getIe hc lk_X13_284 ca_703 7 rfl (show I3 703 7 = I 0 11 from hmI3.tas) dX13_count_131 ?_
    refine g_iret hc hm dX13_count_134 ?_
    exact x_end (by rw [hsw]; rfl) hfI3 hmI3.g hR
  · skip
    refine g_tableIn (tgt := 135) (off := 129) hc dX13_count_6 (by first | exact hI _ _ | exact hxI2 _ _ | exact hIa _ _ | exact hIb _ _ | exact g_b32 | exact g_and32 | assumption | exact ⟨by omega, by omega⟩) (by omega) (by omega) (by rw [hsw]; rfl) (by decide) ?_
    refine g_aldn hc dX13_count_135 rfl ?_
    refine g_getIe hc lk_X13_115 ca_703 6 rfl (show I3 703 6 = I 1 1 from by rw [hI3, g_up_n (by omega)]; exact hT) dX13_count_136 ?_
    refine g_iret hc hm dX13_count_139 ?_
    exact x_end (by rw [hsw]; rfl) hfI3 hmI3.g hR
  · skip
    refine g_tableIn (tgt := 140) (off := 134) hc dX13_count_6 (by first | exact hI _ _ | exact hxI2 _ _ | exact hIa _ _ | exact hIb _ _ | exact g_b32 | exact g_and32 | assumption | exact ⟨by omega, by omega⟩) (by omega) (by omega) (by rw [hsw]; rfl) (by decide) ?_
    refine g_aldn hc dX13_count_140 rfl ?_
    refine g_getIe hc lk_X13_52 ca_703 24 rfl (show I3 703 24 = I 0 12 from hmI3.tab) dX13_count_141 ?_
    refine g_iconst hc dX13_count_144 ?_
    refine g_icmp_ne (tgt := 152) hc dX13_count_145 (by decide) (by first | exact hI _ _ | exact hxI2 _ _ | exact hIa _ _ | exact hIb _ _ | exact g_b32 | exact g_and32 | assumption | exact ⟨by omega, by omega⟩) (by first | exact hI _ _ | exact hxI2 _ _ | exact hIa _ _ | exact hIb _ _ | exact g_b32 | exact g_and32 | assumption | exact ⟨by omega, by omega⟩) (fun c3 => ?_) (fun c3 => ?_)
    · skip
      have hTs := q_ts hmM (by omega)
      refine g_aldn hc dX13_count_152 rfl ?_
      refine g_V0 hc (c_X13_thereBits w hR hmI3 (by omega)) my_X13_thereBits mv_X13_thereBits ca_703 rfl rfl lm_X13_410 rfl (by decide) (Nat.le_of_ble_eq_true rfl) hm dX13_count_153 (fun r4 n4 I4 J4 R4 hp4 => ?_)
      obtain ⟨rfl, rfl, hK4, hX4, rfl, t4, hR⟩ := hp4
      have hmI4 : q_rel I lb I4 := q_cg (fun k j hk => hK4 k j (fun z => hk (x_wa z))) hX4 hmI3
      have hfI4 : ∀ (k : Nat) (j : Int), ¬ x_a k j → I4 k j = M k j := fun k j hk => (hK4 k j (fun z => hk (x_wa z))).trans (hfI3 k j hk)
      refine g_S1r hc (c_J6_bitCount_0f7a4 w) my_J6_bitCount_0f7a4 ms_J6_bitCount_0f7a4 lm_X13_413 rfl (by decide) (Nat.le_of_ble_eq_true rfl) hm dX13_count_156 ?_
      refine g_iret hc hm dX13_count_159 ?_
      exact x_end (by rw [hsw]; rfl) hfI4 hmI4.g hR
    · skip
      refine g_iconst hc dX13_count_148 ?_
      refine g_goto (tgt := 159) hc dX13_count_149 (by decide) ?_
      refine g_iret hc hm dX13_count_159 ?_
      exact x_end (by rw [hsw]; show 0 = g_bc (g_thb I lb); rw [g_thb, show I lb 0 = 0 by omega]; show (0 : Int) = g_bc 0; decide +kernel) hfI3 hmI3.g hR
  · skip
    refine g_tableIn (tgt := 160) (off := 154) hc dX13_count_6 (by first | exact hI _ _ | exact hxI2 _ _ | exact hIa _ _ | exact hIb _ _ | exact g_b32 | exact g_and32 | assumption | exact ⟨by omega, by omega⟩) (by omega) (by omega) (by rw [hsw]; rfl) (by decide) ?_
    refine g_aldn hc dX13_count_160 rfl ?_
    refine g_getRk hc lk_X13_60 ca_703 (rc_703_26 hR) dX13_count_161 ?_
    refine g_iload_n hc dX13_count_164 rfl ?_
    refine g_bipush hc dX13_count_165 (by decide +kernel) ?_
    refine g_isub hc dX13_count_167 ?_
    refine g_ialde hc ca_714 (by decide) (by omega) (by omega) (show I3 714 (k - 7) = I 550 (k - 7) from hmI3.told (by omega)) dX13_count_168 ?_
    refine g_iret hc hm dX13_count_169 ?_
    exact x_end (by rw [x_cnt, if_neg (by omega), if_neg (by omega), if_neg (by omega), if_neg (by omega), if_neg (by omega), if_neg (by omega), if_neg (by omega), if_pos (by omega)]) hfI3 hmI3.g hR
  · skip
    refine g_tableIn (tgt := 160) (off := 154) hc dX13_count_6 (by first | exact hI _ _ | exact hxI2 _ _ | exact hIa _ _ | exact hIb _ _ | exact g_b32 | exact g_and32 | assumption | exact ⟨by omega, by omega⟩) (by omega) (by omega) (by rw [hsw]; rfl) (by decide) ?_
    refine g_aldn hc dX13_count_160 rfl ?_
    refine g_getRk hc lk_X13_60 ca_703 (rc_703_26 hR) dX13_count_161 ?_
    refine g_iload_n hc dX13_count_164 rfl ?_
    refine g_bipush hc dX13_count_165 (by decide +kernel) ?_
    refine g_isub hc dX13_count_167 ?_
    refine g_ialde hc ca_714 (by decide) (by omega) (by omega) (show I3 714 (k - 7) = I 550 (k - 7) from hmI3.told (by omega)) dX13_count_168 ?_
    refine g_iret hc hm dX13_count_169 ?_
    exact x_end (by rw [x_cnt, if_neg (by omega), if_neg (by omega), if_neg (by omega), if_neg (by omega), if_neg (by omega), if_neg (by omega), if_neg (by omega), if_pos (by omega)]) hfI3 hmI3.g hR
  · skip
    refine g_tableIn (tgt := 160) (off := 154) hc dX13_count_6 (by first | exact hI _ _ | exact hxI2 _ _ | exact hIa _ _ | exact hIb _ _ | exact g_b32 | exact g_and32 | assumption | exact ⟨by omega, by omega⟩) (by omega) (by omega) (by rw [hsw]; rfl) (by decide) ?_
    refine g_aldn hc dX13_count_160 rfl ?_
    refine g_getRk hc lk_X13_60 ca_703 (rc_703_26 hR) dX13_count_161 ?_
    refine g_iload_n hc dX13_count_164 rfl ?_
    refine g_bipush hc dX13_count_165 (by decide +kernel) ?_
    refine g_isub hc dX13_count_167 ?_
    refine g_ialde hc ca_714 (by decide) (by omega) (by omega) (show I3 714 (k - 7) = I 550 (k - 7) from hmI3.told (by omega)) dX13_count_168 ?_
    refine g_iret hc hm dX13_count_169 ?_
    exact x_end (by rw [x_cnt, if_neg (by omega), if_neg (by omega), if_neg (by omega), if_neg (by omega), if_neg (by omega), if_neg (by omega), if_neg (by omega), if_pos (by omega)]) hfI3 hmI3.g hR
  · skip
    refine g_tableIn (tgt := 160) (off := 154) hc dX13_count_6 (by first | exact hI _ _ | exact hxI2 _ _ | exact hIa _ _ | exact hIb _ _ | exact g_b32 | exact g_and32 | assumption | exact ⟨by omega, by omega⟩) (by omega) (by omega) (by rw [hsw]; rfl) (by decide) ?_
    refine g_aldn hc dX13_count_160 rfl ?_
    refine g_getRk hc lk_X13_60 ca_703 (rc_703_26 hR) dX13_count_161 ?_
    refine g_iload_n hc dX13_count_164 rfl ?_
    refine g_bipush hc dX13_count_165 (by decide +kernel) ?_
    refine g_isub hc dX13_count_167 ?_
    refine g_ialde hc ca_714 (by decide) (by omega) (by omega) (show I3 714 (k - 7) = I 550 (k - 7) from hmI3.told (by omega)) dX13_count_168 ?_
    refine g_iret hc hm dX13_count_169 ?_
    exact x_end (by rw [x_cnt, if_neg (by omega), if_neg (by omega), if_neg (by omega), if_neg (by omega), if_neg (by omega), if_neg (by omega), if_neg (by omega), if_pos (by omega)]) hfI3 hmI3.g hR
  · skip
    refine g_tableIn (tgt := 170) (off := 164) hc dX13_count_6 (by first | exact hI _ _ | exact hxI2 _ _ | exact hIa _ _ | exact hIb _ _ | exact g_b32 | exact g_and32 | assumption | exact ⟨by omega, by omega⟩) (by omega) (by omega) (by rw [hsw]; rfl) (by decide) ?_
    refine g_aldn hc dX13_count_170 rfl ?_
    refine g_getIe hc lk_X13_295 ca_703 38 rfl (show I3 703 38 = I 697 4 from hmI3.clu.2.1) dX13_count_171 ?_
    refine g_iret hc hm dX13_count_174 ?_
    exact x_end (by rw [hsw]; rfl) hfI3 hmI3.g hR
  · skip
    refine g_tableIn (tgt := 175) (off := 169) hc dX13_count_6 (by first | exact hI _ _ | exact hxI2 _ _ | exact hIa _ _ | exact hIb _ _ | exact g_b32 | exact g_and32 | assumption | exact ⟨by omega, by omega⟩) (by omega) (by omega) (by rw [hsw]; rfl) (by decide) ?_
    refine g_aldn hc dX13_count_175 rfl ?_
    refine g_getIe hc lk_X13_298 ca_703 41 rfl (show I3 703 41 = I 701 2 from by rw [hI3, g_up_n (by omega)]; exact hB1) dX13_count_176 ?_
    refine g_iret hc hm dX13_count_179 ?_
    exact x_end (by rw [hsw]; rfl) hfI3 hmI3.g hR
  · skip
    refine g_tableIn (tgt := 180) (off := 174) hc dX13_count_6 (by first | exact hI _ _ | exact hxI2 _ _ | exact hIa _ _ | exact hIb _ _ | exact g_b32 | exact g_and32 | assumption | exact ⟨by omega, by omega⟩) (by omega) (by omega) (by rw [hsw]; rfl) (by decide) ?_
    refine g_aldn hc dX13_count_180 rfl ?_
    refine g_getIe hc lk_X13_292 ca_703 32 rfl (show I3 703 32 = I 549 5 from by rw [hI3, g_up_n (by omega)]; exact hA) dX13_count_181 ?_
    refine g_iret hc hm dX13_count_184 ?_
    exact x_end (by rw [hsw]; rfl) hfI3 hmI3.g hR
