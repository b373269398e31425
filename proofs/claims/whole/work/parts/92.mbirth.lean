set_option maxHeartbeats 4000000 in
set_option maxRecDepth 100000 in
/-- X13_goBirth -/
theorem c_X13_goBirth (w : g_W) {I : g_I} {J : g_J} {R : g_R} {lb tx : Nat} (hR : g_rf w R lb tx) {M : g_I} (hmM : q_rel I lb M) (ht : 0 ≤ I 0 12) : g_Met w g_n M J R yX13_goBirth cX13_goBirth 5 (some .int) 37 0 0 [(gvr w 703)] (fun rr nn II JJ RR => x_rel w (some (gvI ((g_dsf I lb (J 703)).1))) x_t M JJ lb rr nn II JJ RR ∧ JJ 703 = (g_dsf I lb (J 703)).2 ∧ (∀ k : Nat, k ≠ 703 → JJ k = J k)) := by
  refine g_intro (own := RX13) [some (gvr w 703), none, none, none, none] (by decide +kernel) rfl (by decide) (Nat.le_of_ble_eq_true rfl) rfl (fun i v hv => g_args 4 i v hv rfl) (fun x hc hm => ?_)
  have hfM : ∀ (k : Nat) (j : Int), ¬ x_t k j → M k j = M k j := fun _ _ _ => rfl
  have hI := hmM.gi
  have hTb := q_b1 hmM
  have hLv := hmM.lv
  have hC := hmM.cin
  have hL := hC.1
  obtain ⟨hn0, hn1, hLs, hLf⟩ := id hL
  obtain ⟨-, hC1, hC2, hC3, hC4, hC5, hC6, hC7⟩ := id hC
  have hTs := q_ts hmM (by omega)
  obtain ⟨⟨hq1, hq0⟩, hq2, ⟨dep, hd0, hd6, hdw, hdc⟩, hq4⟩ := (q_lfT hmM ht).2.1
  refine g_aldn hc dX13_goBirth_0 rfl ?_
  refine g_getRk hc lk_X13_49 ca_703 (rc_703_22 hR) dX13_goBirth_1 ?_
  refine g_aldn hc dX13_goBirth_4 rfl ?_
  refine g_getIe hc lk_X13_52 ca_703 24 rfl (show M 703 24 = I 0 12 from hmM.tab) dX13_goBirth_5 ?_
  refine g_ialde hc ca_712 (by decide) (by omega) (by omega) (show M 712 (I 0 12) = I lb 1 from q_fm hmM (by omega)) dX13_goBirth_8 ?_
  refine g_if_ne (tgt := 16) hc dX13_goBirth_9 (by decide) (by first | exact hI _ _ | exact hxI2 _ _ | exact hIa _ _ | exact hIb _ _ | exact g_b32 | exact g_and32 | assumption | exact ⟨by omega, by omega⟩) (fun c1 => ?_) (fun c1 => ?_)
  · skip
    refine g_bipush hc dX13_goBirth_16 (by decide +kernel) ?_
    refine g_istore_1 hc dX13_goBirth_18 rfl ?_
    have lp_19 : ∀ (fu : Nat) (t i : Int) (Jm : g_J) (Mm : g_I) (Rm : g_R), 0 ≤ i ∧ i ≤ 6 → g_dsf I lb (J 703) = g_dsr I lb (6 - i).toNat (t, Jm 703) → ((0 ≤ t ∧ t < I lb 0) ∨ (100 ≤ t ∧ t < 100 + I lb 1 ∧ dep (t - 100) = i)) → (∀ k : Nat, k ≠ 703 → Jm k = J k) → (∃ tm, g_rf w Rm lb tm) → q_rel I lb Mm → (∀ (k : Nat) (j : Int), ¬ x_t k j → Mm k j = M k j) → 6 - i < (fu : Int) → G w x (fun rr nn II JJ RR => x_rel w (some (gvI ((g_dsf I lb (J 703)).1))) x_t M JJ lb rr nn II JJ RR ∧ JJ 703 = (g_dsf I lb (J 703)).2 ∧ (∀ k : Nat, k ≠ 703 → JJ k = J k)) 0 0 g_n Mm Jm Rm 19 [some (gvr w 703), some (gvI t), none, none, none] [] := by
      intro fu
      induction fu with
      | zero => intro t i Jm Mm Rm h3 h4 h5 hKm hR hmMm hfMm hfu; exfalso; omega
      | succ fu ih =>
        intro t i Jm Mm Rm h3 h4 h5 hKm hR hmMm hfMm hfu
        obtain ⟨tm, hR⟩ := hR
        have ih_19 := ih
        refine g_iload_n hc dX13_goBirth_19 rfl ?_
        refine g_bipush hc dX13_goBirth_20 (by decide +kernel) ?_
        refine g_icmp_lt (tgt := 117) hc dX13_goBirth_22 (by decide) (by first | exact hI _ _ | exact hxI2 _ _ | exact hIa _ _ | exact hIb _ _ | exact g_b32 | exact g_and32 | assumption | exact ⟨by omega, by omega⟩) (by first | exact hI _ _ | exact hxI2 _ _ | exact hIa _ _ | exact hIb _ _ | exact g_b32 | exact g_and32 | assumption | exact ⟨by omega, by omega⟩) (fun c2 => ?_) (fun c2 => ?_)
        · skip
          refine g_iload_n hc dX13_goBirth_117 rfl ?_
          refine g_iret hc hm dX13_goBirth_118 ?_
          have hE : g_dsf I lb (J 703) = (t, Jm 703) := by rw [h4]; exact g_dsr_e (by show ¬ (100 : Int) ≤ t; omega)
          exact ⟨x_end (by rw [hE]) hfMm hmMm.g hR, by rw [hE], hKm⟩
        · skip
          have hf1 : 0 ≤ t - 100 ∧ t - 100 < I lb 1 := by omega
          obtain ⟨hk2, hk1, hy, hit⟩ := hLf _ hf1.1 hf1.2
          have hd9 := hd6 _ hf1.1 hf1.2
          refine g_iload_n hc dX13_goBirth_25 rfl ?_
          refine g_bipush hc dX13_goBirth_26 (by decide +kernel) ?_
          refine g_isub hc dX13_goBirth_28 ?_
          refine g_istore_2 hc dX13_goBirth_29 rfl ?_
          refine g_aldn hc dX13_goBirth_30 rfl ?_
          refine g_getRk hc lk_X13_40 ca_703 (rc_703_19 hR) dX13_goBirth_31 ?_
          refine g_aldn hc dX13_goBirth_34 rfl ?_
          refine g_aldn hc dX13_goBirth_35 rfl ?_
          refine g_getIe hc lk_X13_52 ca_703 24 rfl (show Mm 703 24 = I 0 12 from hmMm.tab) dX13_goBirth_36 ?_
          refine g_iload_n hc dX13_goBirth_39 rfl ?_
          refine g_V2r hc (c_X13_forkAt w) my_X13_forkAt mv_X13_forkAt ca_703 rfl rfl lm_X13_249 rfl (by decide) (Nat.le_of_ble_eq_true rfl) hm dX13_goBirth_40 ?_
          refine g_iconst hc dX13_goBirth_43 ?_
          refine g_iadd hc dX13_goBirth_44 ?_
          refine g_ialde hc ca_709 (by decide) (by omega) (by omega) (show Mm 709 ((((I 0 12) * 18 + (t - 100)) * 5) + 1) = I (lb + 42) (t - 100) from q_kd hmMm (by omega)) dX13_goBirth_45 ?_
          refine g_iconst hc dX13_goBirth_46 ?_
          refine g_icmp_ne (tgt := 54) hc dX13_goBirth_47 (by decide) (by first | exact hI _ _ | exact hxI2 _ _ | exact hIa _ _ | exact hIb _ _ | exact g_b32 | exact g_and32 | assumption | exact ⟨by omega, by omega⟩) (by first | exact hI _ _ | exact hxI2 _ _ | exact hIa _ _ | exact hIb _ _ | exact g_b32 | exact g_and32 | assumption | exact ⟨by omega, by omega⟩) (fun c3 => ?_) (fun c3 => ?_)
          · skip
            have hkd := c3
            refine g_iconst hc dX13_goBirth_54 ?_
            refine g_istore_3 hc dX13_goBirth_55 rfl ?_
            refine g_iload_n hc dX13_goBirth_56 rfl ?_
            refine g_if_eq (tgt := 69) hc dX13_goBirth_57 (by decide) (show g32 _ from ⟨by decide, by decide⟩) (fun c4 => ?_) (fun c4 => ?_)
            · skip
              refine g_aldn hc dX13_goBirth_69 rfl ?_
              refine g_getRk hc lk_X13_60 ca_703 (rc_703_26 hR) dX13_goBirth_70 ?_
              refine g_iconst hc dX13_goBirth_73 ?_
              refine g_ialde hc ca_714 (by decide) (by omega) (by omega) (show Mm 714 0 = I 550 0 from hmMm.told (by omega)) dX13_goBirth_74 ?_
              refine g_iconst hc dX13_goBirth_75 ?_
              refine g_icmp_ne (tgt := 88) hc dX13_goBirth_76 (by decide) (by first | exact hI _ _ | exact hxI2 _ _ | exact hIa _ _ | exact hIb _ _ | exact g_b32 | exact g_and32 | assumption | exact ⟨by omega, by omega⟩) (by first | exact hI _ _ | exact hxI2 _ _ | exact hIa _ _ | exact hIb _ _ | exact g_b32 | exact g_and32 | assumption | exact ⟨by omega, by omega⟩) (fun c5 => ?_) (fun c5 => ?_)
              · skip
                have hpl := c5
                refine g_aldn hc dX13_goBirth_88 rfl ?_
                refine g_iload_n hc dX13_goBirth_89 rfl ?_
                refine g_V1 hc (c_X13_choice w hR hmMm (by omega)) my_X13_choice mv_X13_choice ca_703 rfl rfl lm_X13_361 rfl (by decide) (Nat.le_of_ble_eq_true rfl) hm dX13_goBirth_90 (fun r3 n3 I3 J3 R3 hp3 => ?_)
                obtain ⟨rfl, rfl, hK3, hX3, rfl, t3, hR⟩ := hp3
                have hmI3 : q_rel I lb I3 := q_cg (fun k j hk => hK3 k j (fun z => hk (x_ta z))) hX3 hmMm
                have hfI3 : ∀ (k : Nat) (j : Int), ¬ x_t k j → I3 k j = M k j := fun k j hk => (hK3 k j hk).trans (hfMm k j hk)
                have hdb0 : g_dbr I lb (t - 100) (Jm 703) = (g_cho I lb (t - 100) (I 550 (4 + (t - 100))), Jm 703) := by unfold g_dbr; rw [if_neg hkd, if_neg hpl]
                have hr0 := q_cho1 hmMm hf1
                obtain ⟨r, hnr⟩ : ∃ r, r = g_cho I lb ((t - 100)) (I 550 (4 + ((t - 100)))) := ⟨_, rfl⟩
                rw [← hnr]
                rw [← hnr] at hdb0 hr0
                have hdb := hdb0
                have hr9 := hr0
                refine g_istore_4 hc dX13_goBirth_93 rfl ?_
                obtain ⟨-, -, -, -, -, htg⟩ := hit r hr9.1 hr9.2
                refine g_aldn hc dX13_goBirth_95 rfl ?_
                refine g_getRk hc lk_X13_43 ca_703 (rc_703_20 hR) dX13_goBirth_96 ?_
                refine g_aldn hc dX13_goBirth_99 rfl ?_
                refine g_aldn hc dX13_goBirth_100 rfl ?_
                refine g_getIe hc lk_X13_52 ca_703 24 rfl (show I3 703 24 = I 0 12 from hmI3.tab) dX13_goBirth_101 ?_
                refine g_iload_n hc dX13_goBirth_104 rfl ?_
                refine g_iload hc dX13_goBirth_105 rfl ?_
                refine g_V3r hc (c_X13_branchAt w) my_X13_branchAt mv_X13_branchAt ca_703 rfl rfl lm_X13_262 rfl (by decide) (Nat.le_of_ble_eq_true rfl) hm dX13_goBirth_107 ?_
                refine g_iconst hc dX13_goBirth_110 ?_
                refine g_iadd hc dX13_goBirth_111 ?_
                refine g_ialde hc ca_710 (by decide) (by omega) (by omega) (show I3 710 (((((I 0 12) * 18 + (t - 100)) * 4 + r) * 6) + 5) = I (lb + 127) ((t - 100) * 4 + r) from q_tg hmI3 (by omega) (by omega)) dX13_goBirth_112 ?_
                refine g_istore_1 hc dX13_goBirth_113 rfl ?_
                refine g_goto (tgt := 19) hc dX13_goBirth_114 (by decide) ?_
                refine G_sub (L' := [some (gvr w 703), some (gvI (I (lb + 127) ((t - 100) * 4 + r))), none, none, none]) (show g_le _ _ from ⟨rfl, ⟨rfl, trivial⟩⟩) ?_
                refine ih_19 _ (i + 1) _ _ _ ?_ ?_ ?_ ?_ ?_ ?_ ?_ ?_
                · omega
                · rw [h4, show (6 - i).toNat = (6 - (i + 1)).toNat + 1 by omega, g_dsr, if_pos (show (100 : Int) ≤ t by omega)]; show g_dsr I lb _ (g_ds1 I lb t (Jm 703)) = _; rw [g_ds1, hdb]; dsimp only; rw [if_pos ⟨hf1, hr9⟩]
                · rcases htg with z | z
                  · exact Or.inl z
                  · refine Or.inr ⟨by omega, by omega, ?_⟩
                    rw [hdc _ r hf1.1 hf1.2 hr9.1 hr9.2 (by omega)]; omega
                · exact fun k hk => (hKm) k hk
                · exact ⟨_, hR⟩
                · exact hmI3
                · exact hfI3
                · omega
              · skip
                have hpl := c5
                refine g_aldn hc dX13_goBirth_79 rfl ?_
                refine g_iload_n hc dX13_goBirth_80 rfl ?_
                refine g_iconst hc dX13_goBirth_81 ?_
                refine g_V2 hc (c_X13_drawnAt w hR hmMm (by omega) (by omega)) my_X13_drawnAt mv_X13_drawnAt ca_703 rfl rfl lm_X13_465 rfl (by decide) (Nat.le_of_ble_eq_true rfl) hm dX13_goBirth_82 (fun r4 n4 I4 J4 R4 hp4 => ?_)
                obtain ⟨⟨rfl, rfl, hK4, hX4, -, t4, hR⟩, hJ4, hQ4, hE4⟩ := hp4
                have hmI4 : q_rel I lb I4 := q_cg (fun k j hk => hK4 k j (fun z => hk (x_na z))) hX4 hmMm
                have hfI4 : ∀ (k : Nat) (j : Int), ¬ x_t k j → I4 k j = M k j := fun k j hk => (hK4 k j (fun z => hk (x_nt z))).trans (hfMm k j hk)
                have hdb0 : g_dbr I lb (t - 100) (Jm 703) = (g_bra I lb (t - 100) (I 550 (4 + (t - 100))) 0 (I (lb + 43) (t - 100)).toNat 0 (g_drw (Jm 703) (q_tot I lb (t - 100) 0)), J4 703) := by unfold g_dbr; rw [if_neg hkd, if_pos hpl, hJ4]; unfold q_tot; rw [if_pos rfl]
                have hr0 := hE4
                refine g_goto (tgt := 93) hc dX13_goBirth_85 (by decide) ?_
                obtain ⟨r, hnr⟩ : ∃ r, r = g_bra I lb ((t - 100)) (I 550 (4 + ((t - 100)))) (0) (I (lb + 43) ((t - 100))).toNat 0 (g_drw (Jm 703) (q_tot I lb ((t - 100)) (0))) := ⟨_, rfl⟩
                rw [← hnr]
                rw [← hnr] at hdb0 hr0
                have hdb := hdb0
                have hr9 := hr0
                refine g_istore_4 hc dX13_goBirth_93 rfl ?_
                obtain ⟨-, -, -, -, -, htg⟩ := hit r hr9.1 hr9.2
                refine g_aldn hc dX13_goBirth_95 rfl ?_
                refine g_getRk hc lk_X13_43 ca_703 (rc_703_20 hR) dX13_goBirth_96 ?_
                refine g_aldn hc dX13_goBirth_99 rfl ?_
                refine g_aldn hc dX13_goBirth_100 rfl ?_
                refine g_getIe hc lk_X13_52 ca_703 24 rfl (show I4 703 24 = I 0 12 from hmI4.tab) dX13_goBirth_101 ?_
                refine g_iload_n hc dX13_goBirth_104 rfl ?_
                refine g_iload hc dX13_goBirth_105 rfl ?_
                refine g_V3r hc (c_X13_branchAt w) my_X13_branchAt mv_X13_branchAt ca_703 rfl rfl lm_X13_262 rfl (by decide) (Nat.le_of_ble_eq_true rfl) hm dX13_goBirth_107 ?_
                refine g_iconst hc dX13_goBirth_110 ?_
                refine g_iadd hc dX13_goBirth_111 ?_
                refine g_ialde hc ca_710 (by decide) (by omega) (by omega) (show I4 710 (((((I 0 12) * 18 + (t - 100)) * 4 + r) * 6) + 5) = I (lb + 127) ((t - 100) * 4 + r) from q_tg hmI4 (by omega) (by omega)) dX13_goBirth_112 ?_
                refine g_istore_1 hc dX13_goBirth_113 rfl ?_
                refine g_goto (tgt := 19) hc dX13_goBirth_114 (by decide) ?_
                refine G_sub (L' := [some (gvr w 703), some (gvI (I (lb + 127) ((t - 100) * 4 + r))), none, none, none]) (show g_le _ _ from ⟨rfl, ⟨rfl, trivial⟩⟩) ?_
                refine ih_19 _ (i + 1) _ _ _ ?_ ?_ ?_ ?_ ?_ ?_ ?_ ?_
                · omega
                · rw [h4, show (6 - i).toNat = (6 - (i + 1)).toNat + 1 by omega, g_dsr, if_pos (show (100 : Int) ≤ t by omega)]; show g_dsr I lb _ (g_ds1 I lb t (Jm 703)) = _; rw [g_ds1, hdb]; dsimp only; rw [if_pos ⟨hf1, hr9⟩]
                · rcases htg with z | z
                  · exact Or.inl z
                  · refine Or.inr ⟨by omega, by omega, ?_⟩
                    rw [hdc _ r hf1.1 hf1.2 hr9.1 hr9.2 (by omega)]; omega
                · exact fun k hk => (fun k hk => (hQ4 k hk).trans (hKm k hk)) k hk
                · exact ⟨_, hR⟩
                · exact hmI4
                · exact hfI4
                · omega
            · exfalso; omega
          · skip
            have hkd := c3
            refine g_iconst hc dX13_goBirth_50 ?_
            refine g_goto (tgt := 55) hc dX13_goBirth_51 (by decide) ?_
            refine g_istore_3 hc dX13_goBirth_55 rfl ?_
            refine g_iload_n hc dX13_goBirth_56 rfl ?_
            refine g_if_eq (tgt := 69) hc dX13_goBirth_57 (by decide) (show g32 _ from ⟨by decide, by decide⟩) (fun c6 => ?_) (fun c6 => ?_)
            · exfalso; omega
            · skip
              refine g_aldn hc dX13_goBirth_60 rfl ?_
              refine g_iload_n hc dX13_goBirth_61 rfl ?_
              refine g_iconst hc dX13_goBirth_62 ?_
              refine g_V2 hc (c_X13_drawnAt w hR hmMm (by omega) (by omega)) my_X13_drawnAt mv_X13_drawnAt ca_703 rfl rfl lm_X13_465 rfl (by decide) (Nat.le_of_ble_eq_true rfl) hm dX13_goBirth_63 (fun r5 n5 I5 J5 R5 hp5 => ?_)
              obtain ⟨⟨rfl, rfl, hK5, hX5, -, t5, hR⟩, hJ5, hQ5, hE5⟩ := hp5
              have hmI5 : q_rel I lb I5 := q_cg (fun k j hk => hK5 k j (fun z => hk (x_na z))) hX5 hmMm
              have hfI5 : ∀ (k : Nat) (j : Int), ¬ x_t k j → I5 k j = M k j := fun k j hk => (hK5 k j (fun z => hk (x_nt z))).trans (hfMm k j hk)
              have hdb0 : g_dbr I lb (t - 100) (Jm 703) = (g_bra I lb (t - 100) (I 550 (4 + (t - 100))) 1 (I (lb + 43) (t - 100)).toNat 0 (g_drw (Jm 703) (q_tot I lb (t - 100) 1)), J5 703) := by unfold g_dbr; rw [if_pos hkd, hJ5]; unfold q_tot; rw [if_neg (by decide)]
              have hr0 := hE5
              refine g_goto (tgt := 93) hc dX13_goBirth_66 (by decide) ?_
              obtain ⟨r, hnr⟩ : ∃ r, r = g_bra I lb ((t - 100)) (I 550 (4 + ((t - 100)))) (1) (I (lb + 43) ((t - 100))).toNat 0 (g_drw (Jm 703) (q_tot I lb ((t - 100)) (1))) := ⟨_, rfl⟩
              rw [← hnr]
              rw [← hnr] at hdb0 hr0
              have hdb := hdb0
              have hr9 := hr0
              refine g_istore_4 hc dX13_goBirth_93 rfl ?_
              obtain ⟨-, -, -, -, -, htg⟩ := hit r hr9.1 hr9.2
              refine g_aldn hc dX13_goBirth_95 rfl ?_
              refine g_getRk hc lk_X13_43 ca_703 (rc_703_20 hR) dX13_goBirth_96 ?_
              refine g_aldn hc dX13_goBirth_99 rfl ?_
              refine g_aldn hc dX13_goBirth_100 rfl ?_
              refine g_getIe hc lk_X13_52 ca_703 24 rfl (show I5 703 24 = I 0 12 from hmI5.tab) dX13_goBirth_101 ?_
              refine g_iload_n hc dX13_goBirth_104 rfl ?_
              refine g_iload hc dX13_goBirth_105 rfl ?_
              refine g_V3r hc (c_X13_branchAt w) my_X13_branchAt mv_X13_branchAt ca_703 rfl rfl lm_X13_262 rfl (by decide) (Nat.le_of_ble_eq_true rfl) hm dX13_goBirth_107 ?_
              refine g_iconst hc dX13_goBirth_110 ?_
              refine g_iadd hc dX13_goBirth_111 ?_
              refine g_ialde hc ca_710 (by decide) (by omega) (by omega) (show I5 710 (((((I 0 12) * 18 + (t - 100)) * 4 + r) * 6) + 5) = I (lb + 127) ((t - 100) * 4 + r) from q_tg hmI5 (by omega) (by omega)) dX13_goBirth_112 ?_
              refine g_istore_1 hc dX13_goBirth_113 rfl ?_
              refine g_goto (tgt := 19) hc dX13_goBirth_114 (by decide) ?_
              refine G_sub (L' := [some (gvr w 703), some (gvI (I (lb + 127) ((t - 100) * 4 + r))), none, none, none]) (show g_le _ _ from ⟨rfl, ⟨rfl, trivial⟩⟩) ?_
              refine ih_19 _ (i + 1) _ _ _ ?_ ?_ ?_ ?_ ?_ ?_ ?_ ?_
              · omega
              · rw [h4, show (6 - i).toNat = (6 - (i + 1)).toNat + 1 by omega, g_dsr, if_pos (show (100 : Int) ≤ t by omega)]; show g_dsr I lb _ (g_ds1 I lb t (Jm 703)) = _; rw [g_ds1, hdb]; dsimp only; rw [if_pos ⟨hf1, hr9⟩]
              · rcases htg with z | z
                · exact Or.inl z
                · refine Or.inr ⟨by omega, by omega, ?_⟩
                  rw [hdc _ r hf1.1 hf1.2 hr9.1 hr9.2 (by omega)]; omega
              · exact fun k hk => (fun k hk => (hQ5 k hk).trans (hKm k hk)) k hk
              · exact ⟨_, hR⟩
              · exact hmI5
              · exact hfI5
              · omega
    refine lp_19 7 _ 0 _ _ _ ?_ ?_ ?_ ?_ ?_ ?_ ?_ (?_)
    · omega
    · rw [g_dsf]; first | rw [if_pos (by assumption)]; rfl | rw [if_neg (by assumption)]; rfl
    · first | exact Or.inl ⟨by omega, by have := hq0 (by assumption); omega⟩ | exact Or.inr ⟨by omega, by omega, hd0⟩
    · intro k _; rfl
    · exact ⟨_, hR⟩
    · exact hmM
    · exact hfM
    · omega
  · skip
    refine g_iconst hc dX13_goBirth_12 ?_
    refine g_goto (tgt := 18) hc dX13_goBirth_13 (by decide) ?_
    refine g_istore_1 hc dX13_goBirth_18 rfl ?_
    have lp_19 : ∀ (fu : Nat) (t i : Int) (Jm : g_J) (Mm : g_I) (Rm : g_R), 0 ≤ i ∧ i ≤ 6 → g_dsf I lb (J 703) = g_dsr I lb (6 - i).toNat (t, Jm 703) → ((0 ≤ t ∧ t < I lb 0) ∨ (100 ≤ t ∧ t < 100 + I lb 1 ∧ dep (t - 100) = i)) → (∀ k : Nat, k ≠ 703 → Jm k = J k) → (∃ tm, g_rf w Rm lb tm) → q_rel I lb Mm → (∀ (k : Nat) (j : Int), ¬ x_t k j → Mm k j = M k j) → 6 - i < (fu : Int) → G w x (fun rr nn II JJ RR => x_rel w (some (gvI ((g_dsf I lb (J 703)).1))) x_t M JJ lb rr nn II JJ RR ∧ JJ 703 = (g_dsf I lb (J 703)).2 ∧ (∀ k : Nat, k ≠ 703 → JJ k = J k)) 0 0 g_n Mm Jm Rm 19 [some (gvr w 703), some (gvI t), none, none, none] [] := by
      intro fu
      induction fu with
      | zero => intro t i Jm Mm Rm h3 h4 h5 hKm hR hmMm hfMm hfu; exfalso; omega
      | succ fu ih =>
        intro t i Jm Mm Rm h3 h4 h5 hKm hR hmMm hfMm hfu
        obtain ⟨tm, hR⟩ := hR
        have ih_19 := ih
        refine g_iload_n hc dX13_goBirth_19 rfl ?_
        refine g_bipush hc dX13_goBirth_20 (by decide +kernel) ?_
        refine g_icmp_lt (tgt := 117) hc dX13_goBirth_22 (by decide) (by first | exact hI _ _ | exact hxI2 _ _ | exact hIa _ _ | exact hIb _ _ | exact g_b32 | exact g_and32 | assumption | exact ⟨by omega, by omega⟩) (by first | exact hI _ _ | exact hxI2 _ _ | exact hIa _ _ | exact hIb _ _ | exact g_b32 | exact g_and32 | assumption | exact ⟨by omega, by omega⟩) (fun c7 => ?_) (fun c7 => ?_)
        · skip
          refine g_iload_n hc dX13_goBirth_117 rfl ?_
          refine g_iret hc hm dX13_goBirth_118 ?_
          have hE : g_dsf I lb (J 703) = (t, Jm 703) := by rw [h4]; exact g_dsr_e (by show ¬ (100 : Int) ≤ t; omega)
          exact ⟨x_end (by rw [hE]) hfMm hmMm.g hR, by rw [hE], hKm⟩
        · skip
          have hf1 : 0 ≤ t - 100 ∧ t - 100 < I lb 1 := by omega
          obtain ⟨hk2, hk1, hy, hit⟩ := hLf _ hf1.1 hf1.2
          have hd9 := hd6 _ hf1.1 hf1.2
          refine g_iload_n hc dX13_goBirth_25 rfl ?_
          refine g_bipush hc dX13_goBirth_26 (by decide +kernel) ?_
          refine g_isub hc dX13_goBirth_28 ?_
          refine g_istore_2 hc dX13_goBirth_29 rfl ?_
          refine g_aldn hc dX13_goBirth_30 rfl ?_
          refine g_getRk hc lk_X13_40 ca_703 (rc_703_19 hR) dX13_goBirth_31 ?_
          refine g_aldn hc dX13_goBirth_34 rfl ?_
          refine g_aldn hc dX13_goBirth_35 rfl ?_
          refine g_getIe hc lk_X13_52 ca_703 24 rfl (show Mm 703 24 = I 0 12 from hmMm.tab) dX13_goBirth_36 ?_
          refine g_iload_n hc dX13_goBirth_39 rfl ?_
          refine g_V2r hc (c_X13_forkAt w) my_X13_forkAt mv_X13_forkAt ca_703 rfl rfl lm_X13_249 rfl (by decide) (Nat.le_of_ble_eq_true rfl) hm dX13_goBirth_40 ?_
          refine g_iconst hc dX13_goBirth_43 ?_
          refine g_iadd hc dX13_goBirth_44 ?_
          refine g_ialde hc ca_709 (by decide) (by omega) (by omega) (show Mm 709 ((((I 0 12) * 18 + (t - 100)) * 5) + 1) = I (lb + 42) (t - 100) from q_kd hmMm (by omega)) dX13_goBirth_45 ?_
          refine g_iconst hc dX13_goBirth_46 ?_
          refine g_icmp_ne (tgt := 54) hc dX13_goBirth_47 (by decide) (by first | exact hI _ _ | exact hxI2 _ _ | exact hIa _ _ | exact hIb _ _ | exact g_b32 | exact g_and32 | assumption | exact ⟨by omega, by omega⟩) (by first | exact hI _ _ | exact hxI2 _ _ | exact hIa _ _ | exact hIb _ _ | exact g_b32 | exact g_and32 | assumption | exact ⟨by omega, by omega⟩) (fun c8 => ?_) (fun c8 => ?_)
          · skip
            have hkd := c8
            refine g_iconst hc dX13_goBirth_54 ?_
            refine g_istore_3 hc dX13_goBirth_55 rfl ?_
            refine g_iload_n hc dX13_goBirth_56 rfl ?_
            refine g_if_eq (tgt := 69) hc dX13_goBirth_57 (by decide) (show g32 _ from ⟨by decide, by decide⟩) (fun c9 => ?_) (fun c9 => ?_)
            · skip
              refine g_aldn hc dX13_goBirth_69 rfl ?_
              refine g_getRk hc lk_X13_60 ca_703 (rc_703_26 hR) dX13_goBirth_70 ?_
              refine g_iconst hc dX13_goBirth_73 ?_
              refine g_ialde hc ca_714 (by decide) (by omega) (by omega) (show Mm 714 0 = I 550 0 from hmMm.told (by omega)) dX13_goBirth_74 ?_
              refine g_iconst hc dX13_goBirth_75 ?_
              refine g_icmp_ne (tgt := 88) hc dX13_goBirth_76 (by decide) (by first | exact hI _ _ | exact hxI2 _ _ | exact hIa _ _ | exact hIb _ _ | exact g_b32 | exact g_and32 | assumption | exact ⟨by omega, by omega⟩) (by first | exact hI _ _ | exact hxI2 _ _ | exact hIa _ _ | exact hIb _ _ | exact g_b32 | exact g_and32 | assumption | exact ⟨by omega, by omega⟩) (fun c10 => ?_) (fun c10 => ?_)
              · skip
                have hpl := c10
                refine g_aldn hc dX13_goBirth_88 rfl ?_
                refine g_iload_n hc dX13_goBirth_89 rfl ?_
                refine g_V1 hc (c_X13_choice w hR hmMm (by omega)) my_X13_choice mv_X13_choice ca_703 rfl rfl lm_X13_361 rfl (by decide) (Nat.le_of_ble_eq_true rfl) hm dX13_goBirth_90 (fun r6 n6 I6 J6 R6 hp6 => ?_)
                obtain ⟨rfl, rfl, hK6, hX6, rfl, t6, hR⟩ := hp6
                have hmI6 : q_rel I lb I6 := q_cg (fun k j hk => hK6 k j (fun z => hk (x_ta z))) hX6 hmMm
                have hfI6 : ∀ (k : Nat) (j : Int), ¬ x_t k j → I6 k j = M k j := fun k j hk => (hK6 k j hk).trans (hfMm k j hk)
                have hdb0 : g_dbr I lb (t - 100) (Jm 703) = (g_cho I lb (t - 100) (I 550 (4 + (t - 100))), Jm 703) := by unfold g_dbr; rw [if_neg hkd, if_neg hpl]
                have hr0 := q_cho1 hmMm hf1
                obtain ⟨r, hnr⟩ : ∃ r, r = g_cho I lb ((t - 100)) (I 550 (4 + ((t - 100)))) := ⟨_, rfl⟩
                rw [← hnr]
                rw [← hnr] at hdb0 hr0
                have hdb := hdb0
                have hr9 := hr0
                refine g_istore_4 hc dX13_goBirth_93 rfl ?_
                obtain ⟨-, -, -, -, -, htg⟩ := hit r hr9.1 hr9.2
                refine g_aldn hc dX13_goBirth_95 rfl ?_
                refine g_getRk hc lk_X13_43 ca_703 (rc_703_20 hR) dX13_goBirth_96 ?_
                refine g_aldn hc dX13_goBirth_99 rfl ?_
                refine g_aldn hc dX13_goBirth_100 rfl ?_
                refine g_getIe hc lk_X13_52 ca_703 24 rfl (show I6 703 24 = I 0 12 from hmI6.tab) dX13_goBirth_101 ?_
                refine g_iload_n hc dX13_goBirth_104 rfl ?_
                refine g_iload hc dX13_goBirth_105 rfl ?_
                refine g_V3r hc (c_X13_branchAt w) my_X13_branchAt mv_X13_branchAt ca_703 rfl rfl lm_X13_262 rfl (by decide) (Nat.le_of_ble_eq_true rfl) hm dX13_goBirth_107 ?_
                refine g_iconst hc dX13_goBirth_110 ?_
                refine g_iadd hc dX13_goBirth_111 ?_
                refine g_ialde hc ca_710 (by decide) (by omega) (by omega) (show I6 710 (((((I 0 12) * 18 + (t - 100)) * 4 + r) * 6) + 5) = I (lb + 127) ((t - 100) * 4 + r) from q_tg hmI6 (by omega) (by omega)) dX13_goBirth_112 ?_
                refine g_istore_1 hc dX13_goBirth_113 rfl ?_
                refine g_goto (tgt := 19) hc dX13_goBirth_114 (by decide) ?_
                refine G_sub (L' := [some (gvr w 703), some (gvI (I (lb + 127) ((t - 100) * 4 + r))), none, none, none]) (show g_le _ _ from ⟨rfl, ⟨rfl, trivial⟩⟩) ?_
                refine ih_19 _ (i + 1) _ _ _ ?_ ?_ ?_ ?_ ?_ ?_ ?_ ?_
                · omega
                · rw [h4, show (6 - i).toNat = (6 - (i + 1)).toNat + 1 by omega, g_dsr, if_pos (show (100 : Int) ≤ t by omega)]; show g_dsr I lb _ (g_ds1 I lb t (Jm 703)) = _; rw [g_ds1, hdb]; dsimp only; rw [if_pos ⟨hf1, hr9⟩]
                · rcases htg with z | z
                  · exact Or.inl z
                  · refine Or.inr ⟨by omega, by omega, ?_⟩
                    rw [hdc _ r hf1.1 hf1.2 hr9.1 hr9.2 (by omega)]; omega
                · exact fun k hk => (hKm) k hk
                · exact ⟨_, hR⟩
                · exact hmI6
                · exact hfI6
                · omega
              · skip
                have hpl := c10
                refine g_aldn hc dX13_goBirth_79 rfl ?_
                refine g_iload_n hc dX13_goBirth_80 rfl ?_
                refine g_iconst hc dX13_goBirth_81 ?_
                refine g_V2 hc (c_X13_drawnAt w hR hmMm (by omega) (by omega)) my_X13_drawnAt mv_X13_drawnAt ca_703 rfl rfl lm_X13_465 rfl (by decide) (Nat.le_of_ble_eq_true rfl) hm dX13_goBirth_82 (fun r7 n7 I7 J7 R7 hp7 => ?_)
                obtain ⟨⟨rfl, rfl, hK7, hX7, -, t7, hR⟩, hJ7, hQ7, hE7⟩ := hp7
                have hmI7 : q_rel I lb I7 := q_cg (fun k j hk => hK7 k j (fun z => hk (x_na z))) hX7 hmMm
                have hfI7 : ∀ (k : Nat) (j : Int), ¬ x_t k j → I7 k j = M k j := fun k j hk => (hK7 k j (fun z => hk (x_nt z))).trans (hfMm k j hk)
                have hdb0 : g_dbr I lb (t - 100) (Jm 703) = (g_bra I lb (t - 100) (I 550 (4 + (t - 100))) 0 (I (lb + 43) (t - 100)).toNat 0 (g_drw (Jm 703) (q_tot I lb (t - 100) 0)), J7 703) := by unfold g_dbr; rw [if_neg hkd, if_pos hpl, hJ7]; unfold q_tot; rw [if_pos rfl]
                have hr0 := hE7
                refine g_goto (tgt := 93) hc dX13_goBirth_85 (by decide) ?_
                obtain ⟨r, hnr⟩ : ∃ r, r = g_bra I lb ((t - 100)) (I 550 (4 + ((t - 100)))) (0) (I (lb + 43) ((t - 100))).toNat 0 (g_drw (Jm 703) (q_tot I lb ((t - 100)) (0))) := ⟨_, rfl⟩
                rw [← hnr]
                rw [← hnr] at hdb0 hr0
                have hdb := hdb0
                have hr9 := hr0
                refine g_istore_4 hc dX13_goBirth_93 rfl ?_
                obtain ⟨-, -, -, -, -, htg⟩ := hit r hr9.1 hr9.2
                refine g_aldn hc dX13_goBirth_95 rfl ?_
                refine g_getRk hc lk_X13_43 ca_703 (rc_703_20 hR) dX13_goBirth_96 ?_
                refine g_aldn hc dX13_goBirth_99 rfl ?_
                refine g_aldn hc dX13_goBirth_100 rfl ?_
                refine g_getIe hc lk_X13_52 ca_703 24 rfl (show I7 703 24 = I 0 12 from hmI7.tab) dX13_goBirth_101 ?_
                refine g_iload_n hc dX13_goBirth_104 rfl ?_
                refine g_iload hc dX13_goBirth_105 rfl ?_
                refine g_V3r hc (c_X13_branchAt w) my_X13_branchAt mv_X13_branchAt ca_703 rfl rfl lm_X13_262 rfl (by decide) (Nat.le_of_ble_eq_true rfl) hm dX13_goBirth_107 ?_
                refine g_iconst hc dX13_goBirth_110 ?_
                refine g_iadd hc dX13_goBirth_111 ?_
                refine g_ialde hc ca_710 (by decide) (by omega) (by omega) (show I7 710 (((((I 0 12) * 18 + (t - 100)) * 4 + r) * 6) + 5) = I (lb + 127) ((t - 100) * 4 + r) from q_tg hmI7 (by omega) (by omega)) dX13_goBirth_112 ?_
                refine g_istore_1 hc dX13_goBirth_113 rfl ?_
                refine g_goto (tgt := 19) hc dX13_goBirth_114 (by decide) ?_
                refine G_sub (L' := [some (gvr w 703), some (gvI (I (lb + 127) ((t - 100) * 4 + r))), none, none, none]) (show g_le _ _ from ⟨rfl, ⟨rfl, trivial⟩⟩) ?_
                refine ih_19 _ (i + 1) _ _ _ ?_ ?_ ?_ ?_ ?_ ?_ ?_ ?_
                · omega
                · rw [h4, show (6 - i).toNat = (6 - (i + 1)).toNat + 1 by omega, g_dsr, if_pos (show (100 : Int) ≤ t by omega)]; show g_dsr I lb _ (g_ds1 I lb t (Jm 703)) = _; rw [g_ds1, hdb]; dsimp only; rw [if_pos ⟨hf1, hr9⟩]
                · rcases htg with z | z
                  · exact Or.inl z
                  · refine Or.inr ⟨by omega, by omega, ?_⟩
                    rw [hdc _ r hf1.1 hf1.2 hr9.1 hr9.2 (by omega)]; omega
                · exact fun k hk => (fun k hk => (hQ7 k hk).trans (hKm k hk)) k hk
                · exact ⟨_, hR⟩
                · exact hmI7
                · exact hfI7
                · omega
            · exfalso; omega
          · skip
            have hkd := c8
            refine g_iconst hc dX13_goBirth_50 ?_
            refine g_goto (tgt := 55) hc dX13_goBirth_51 (by decide) ?_
            refine g_istore_3 hc dX13_goBirth_55 rfl ?_
            refine g_iload_n hc dX13_goBirth_56 rfl ?_
            refine g_if_eq (tgt := 69) hc dX13_goBirth_57 (by decide) (show g32 _ from ⟨by decide, by decide⟩) (fun c11 => ?_) (fun c11 => ?_)
            · exfalso; omega
            · skip
              refine g_aldn hc dX13_goBirth_60 rfl ?_
              refine g_iload_n hc dX13_goBirth_61 rfl ?_
              refine g_iconst hc dX13_goBirth_62 ?_
              refine g_V2 hc (c_X13_drawnAt w hR hmMm (by omega) (by omega)) my_X13_drawnAt mv_X13_drawnAt ca_703 rfl rfl lm_X13_465 rfl (by decide) (Nat.le_of_ble_eq_true rfl) hm dX13_goBirth_63 (fun r8 n8 I8 J8 R8 hp8 => ?_)
              obtain ⟨⟨rfl, rfl, hK8, hX8, -, t8, hR⟩, hJ8, hQ8, hE8⟩ := hp8
              have hmI8 : q_rel I lb I8 := q_cg (fun k j hk => hK8 k j (fun z => hk (x_na z))) hX8 hmMm
              have hfI8 : ∀ (k : Nat) (j : Int), ¬ x_t k j → I8 k j = M k j := fun k j hk => (hK8 k j (fun z => hk (x_nt z))).trans (hfMm k j hk)
              have hdb0 : g_dbr I lb (t - 100) (Jm 703) = (g_bra I lb (t - 100) (I 550 (4 + (t - 100))) 1 (I (lb + 43) (t - 100)).toNat 0 (g_drw (Jm 703) (q_tot I lb (t - 100) 1)), J8 703) := by unfold g_dbr; rw [if_pos hkd, hJ8]; unfold q_tot; rw [if_neg (by decide)]
              have hr0 := hE8
              refine g_goto (tgt := 93) hc dX13_goBirth_66 (by decide) ?_
              obtain ⟨r, hnr⟩ : ∃ r, r = g_bra I lb ((t - 100)) (I 550 (4 + ((t - 100)))) (1) (I (lb + 43) ((t - 100))).toNat 0 (g_drw (Jm 703) (q_tot I lb ((t - 100)) (1))) := ⟨_, rfl⟩
              rw [← hnr]
              rw [← hnr] at hdb0 hr0
              have hdb := hdb0
              have hr9 := hr0
              refine g_istore_4 hc dX13_goBirth_93 rfl ?_
              obtain ⟨-, -, -, -, -, htg⟩ := hit r hr9.1 hr9.2
              refine g_aldn hc dX13_goBirth_95 rfl ?_
              refine g_getRk hc lk_X13_43 ca_703 (rc_703_20 hR) dX13_goBirth_96 ?_
              refine g_aldn hc dX13_goBirth_99 rfl ?_
              refine g_aldn hc dX13_goBirth_100 rfl ?_
              refine g_getIe hc lk_X13_52 ca_703 24 rfl (show I8 703 24 = I 0 12 from hmI8.tab) dX13_goBirth_101 ?_
              refine g_iload_n hc dX13_goBirth_104 rfl ?_
              refine g_iload hc dX13_goBirth_105 rfl ?_
              refine g_V3r hc (c_X13_branchAt w) my_X13_branchAt mv_X13_branchAt ca_703 rfl rfl lm_X13_262 rfl (by decide) (Nat.le_of_ble_eq_true rfl) hm dX13_goBirth_107 ?_
              refine g_iconst hc dX13_goBirth_110 ?_
              refine g_iadd hc dX13_goBirth_111 ?_
              refine g_ialde hc ca_710 (by decide) (by omega) (by omega) (show I8 710 (((((I 0 12) * 18 + (t - 100)) * 4 + r) * 6) + 5) = I (lb + 127) ((t - 100) * 4 + r) from q_tg hmI8 (by omega) (by omega)) dX13_goBirth_112 ?_
              refine g_istore_1 hc dX13_goBirth_113 rfl ?_
              refine g_goto (tgt := 19) hc dX13_goBirth_114 (by decide) ?_
              refine G_sub (L' := [some (gvr w 703), some (gvI (I (lb + 127) ((t - 100) * 4 + r))), none, none, none]) (show g_le _ _ from ⟨rfl, ⟨rfl, trivial⟩⟩) ?_
              refine ih_19 _ (i + 1) _ _ _ ?_ ?_ ?_ ?_ ?_ ?_ ?_ ?_
              · omega
              · rw [h4, show (6 - i).toNat = (6 - (i + 1)).toNat + 1 by omega, g_dsr, if_pos (show (100 : Int) ≤ t by omega)]; show g_dsr I lb _ (g_ds1 I lb t (Jm 703)) = _; rw [g_ds1, hdb]; dsimp only; rw [if_pos ⟨hf1, hr9⟩]
              · rcases htg with z | z
                · exact Or.inl z
                · refine Or.inr ⟨by omega, by omega, ?_⟩
                  rw [hdc _ r hf1.1 hf1.2 hr9.1 hr9.2 (by omega)]; omega
              · exact fun k hk => (fun k hk => (hQ8 k hk).trans (hKm k hk)) k hk
              · exact ⟨_, hR⟩
              · exact hmI8
              · exact hfI8
              · omega
    refine lp_19 7 _ 0 _ _ _ ?_ ?_ ?_ ?_ ?_ ?_ ?_ (?_)
    · omega
    · rw [g_dsf]; first | rw [if_pos (by assumption)]; rfl | rw [if_neg (by assumption)]; rfl
    · first | exact Or.inl ⟨by omega, by have := hq0 (by assumption); omega⟩ | exact Or.inr ⟨by omega, by omega, hd0⟩
    · intro k _; rfl
    · exact ⟨_, hR⟩
    · exact hmM
    · exact hfM
    · omega
