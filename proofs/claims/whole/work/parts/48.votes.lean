set_option maxHeartbeats 4000000 in
set_option maxRecDepth 100000 in
/-- X1_isVoter -/
theorem c_X1_isVoter (w : g_W) {I : g_I} {J : g_J} {R : g_R} {lb tx : Nat} (hR : g_rf w R lb tx) (hlb : g_life lb) {I2 : g_I} (hI : ∀ k j, g32 (I k j)) (hsI2 : g_off I I2) (hxI2 : ∀ k j, g32 (I2 k j)) (hC : g_cin I lb) {m s : Int} (hHI2 : g_hrd I lb m I2) (h1 : 0 ≤ s ∧ s < I lb 0) : g_Met w g_n I2 J R yX1_isVoter cX1_isVoter 2 (some .boolean) 0 0 0 [(gvr w 686), (gvI s)] (g_post (some (gvI (g_b (g_vtr I lb s)))) g_n I2 J R) := by
  refine g_intro (own := RX1) [some (gvr w 686), some (gvI s)] (by decide +kernel) rfl (by decide) (Nat.le_of_ble_eq_true rfl) rfl (fun i v hv => g_args 0 i v hv rfl) (fun x hc hm => ?_)
  have hL := hC.1
  obtain ⟨hn0, hn1, hLs, hLf⟩ := id hL
  obtain ⟨-, hC1, hC2, hC3, hC4, hC5, hC6, hC7⟩ := id hC
  have hlb5 := hlb
  unfold g_life at hlb5
  have hdI2 : ∀ k : Nat, ¬ g_sH k → I2 k = I2 k := fun _ _ => rfl
  refine g_aldn hc dX1_isVoter_0 rfl ?_
  refine g_getI' hc lk_X1_90 ca_686 6 rfl dX1_isVoter_1 ?_
  refine g_iload_n hc dX1_isVoter_4 rfl ?_
  refine g_ishr hc dX1_isVoter_5 ?_
  refine g_iconst hc dX1_isVoter_6 ?_
  refine g_iand hc dX1_isVoter_7 ?_
  refine g_iconst hc dX1_isVoter_8 ?_
  refine g_icmp_ne (tgt := 16) hc dX1_isVoter_9 (by decide) (by first | exact hI _ _ | exact hxI2 _ _ | exact hIa _ _ | exact hIb _ _ | exact g_b32 | exact g_and32 | assumption | exact ⟨by omega, by omega⟩) (by first | exact hI _ _ | exact hxI2 _ _ | exact hIa _ _ | exact hIb _ _ | exact g_b32 | exact g_and32 | assumption | exact ⟨by omega, by omega⟩) (fun c1 => ?_) (fun c1 => ?_)
  · skip
    refine g_iconst hc dX1_isVoter_16 ?_
    refine g_zret hc hm (by first | exact g_b01 | omega) dX1_isVoter_17 ?_
    first | (exfalso; omega) | exact g_postE (g_b1 ((g_hrd_bit hHI2 ⟨hn0.1, hn0.2⟩ h1).mp (by assumption))) | exact g_postE (g_b0 (fun z => absurd ((g_hrd_bit hHI2 ⟨hn0.1, hn0.2⟩ h1).mpr z) (by assumption)))
  · skip
    refine g_iconst hc dX1_isVoter_12 ?_
    refine g_goto (tgt := 17) hc dX1_isVoter_13 (by decide) ?_
    refine g_zret hc hm (by first | exact g_b01 | omega) dX1_isVoter_17 ?_
    first | (exfalso; omega) | exact g_postE (g_b1 ((g_hrd_bit hHI2 ⟨hn0.1, hn0.2⟩ h1).mp (by assumption))) | exact g_postE (g_b0 (fun z => absurd ((g_hrd_bit hHI2 ⟨hn0.1, hn0.2⟩ h1).mpr z) (by assumption)))
set_option maxHeartbeats 4000000 in
set_option maxRecDepth 100000 in
/-- X1_votedFor -/
theorem c_X1_votedFor (w : g_W) {I : g_I} {J : g_J} {R : g_R} {lb tx : Nat} (hR : g_rf w R lb tx) (hlb : g_life lb) {I2 : g_I} (hI : ∀ k j, g32 (I k j)) (hsI2 : g_off I I2) (hxI2 : ∀ k j, g32 (I2 k j)) (hC : g_cin I lb) {m s : Int} (hm1 : 1 ≤ m ∧ m ≤ I 0 11) (hHI2 : g_hrd I lb m I2) (h1 : 0 ≤ s ∧ s < I lb 0) (hv : g_vtr I lb s) : g_Met w g_n I2 J R yX1_votedFor cX1_votedFor 5 (some .int) 0 0 0 [(gvr w 686), (gvI s), (gvI m)] (g_post (some (gvI (g_vfn I lb s m.toNat))) g_n I2 J R) := by
  refine g_intro (own := RX1) [some (gvr w 686), some (gvI s), some (gvI m), none, none] (by decide +kernel) rfl (by decide) (Nat.le_of_ble_eq_true rfl) rfl (fun i v hv => g_args 2 i v hv rfl) (fun x hc hm => ?_)
  have hL := hC.1
  obtain ⟨hn0, hn1, hLs, hLf⟩ := id hL
  obtain ⟨-, hC1, hC2, hC3, hC4, hC5, hC6, hC7⟩ := id hC
  have hlb5 := hlb
  unfold g_life at hlb5
  have hdI2 : ∀ k : Nat, ¬ g_sH k → I2 k = I2 k := fun _ _ => rfl
  refine g_iconst hc dX1_votedFor_0 ?_
  refine g_istore_3 hc dX1_votedFor_1 rfl ?_
  refine g_iconst hc dX1_votedFor_2 ?_
  refine g_istore_4 hc dX1_votedFor_3 rfl ?_
  have lp_5 : ∀ (fu : Nat) (a i : Int), 1 ≤ i ∧ i ≤ m → a = g_vfn I lb s i.toNat → m - i < (fu : Int) → G w x (g_post (some (gvI (g_vfn I lb s m.toNat))) g_n I2 J R) 0 0 g_n I2 J R 5 [some (gvr w 686), some (gvI s), some (gvI m), some (gvI a), some (gvI i)] [] := by
    intro fu
    induction fu with
    | zero => intro a i h3 h4 hfu; exfalso; omega
    | succ fu ih =>
      intro a i h3 h4 hfu
      have hva := g_vfn_in (I := I) (b := lb) (s := s) i.toNat (by omega)
      rw [← h4] at hva
      have ih_5 := ih
      refine g_iload hc dX1_votedFor_5 rfl ?_
      refine g_iload_n hc dX1_votedFor_7 rfl ?_
      refine g_icmp_ge (tgt := 40) hc dX1_votedFor_8 (by decide) (by first | exact hI _ _ | exact hxI2 _ _ | exact hIa _ _ | exact hIb _ _ | exact g_b32 | exact g_and32 | assumption | exact ⟨by omega, by omega⟩) (by first | exact hI _ _ | exact hxI2 _ _ | exact hIa _ _ | exact hIb _ _ | exact g_b32 | exact g_and32 | assumption | exact ⟨by omega, by omega⟩) (fun c1 => ?_) (fun c1 => ?_)
      · skip
        refine g_iload_n hc dX1_votedFor_40 rfl ?_
        refine g_iret hc hm dX1_votedFor_41 ?_
        exact g_postE (by rw [h4, show m = i by omega])
      · skip
        have e1 := hHI2.2 i s (by omega) (by omega) h1.1 h1.2 hv
        have e2 := hHI2.2 a s (by omega) (by omega) h1.1 h1.2 hv
        refine g_aldn hc dX1_votedFor_11 rfl ?_
        refine g_getRk hc lk_X1_23 ca_686 (rc_686_5 hR) dX1_votedFor_12 ?_
        refine g_iload hc dX1_votedFor_15 rfl ?_
        refine g_aaldk hc ca_690 (by decide) rfl rfl (by decide) (by omega) (by omega) (ra_690 hR (by omega) (by omega)) dX1_votedFor_17 ?_
        refine g_iload_n hc dX1_votedFor_18 rfl ?_
        refine g_iald hc (wo_at (i := i) (by omega) (by omega)) (by decide) (by omega) (by omega) dX1_votedFor_19 ?_
        refine g_aldn hc dX1_votedFor_20 rfl ?_
        refine g_getRk hc lk_X1_23 ca_686 (rc_686_5 hR) dX1_votedFor_21 ?_
        refine g_iload_n hc dX1_votedFor_24 rfl ?_
        refine g_aaldk hc ca_690 (by decide) rfl rfl (by decide) (by omega) (by omega) (ra_690 hR (by omega) (by omega)) dX1_votedFor_25 ?_
        refine g_iload_n hc dX1_votedFor_26 rfl ?_
        refine g_iald hc (wo_at (i := a) (by omega) (by omega)) (by decide) (by omega) (by omega) dX1_votedFor_27 ?_
        refine g_icmp_le (tgt := 34) hc dX1_votedFor_28 (by decide) (by first | exact hI _ _ | exact hxI2 _ _ | exact hIa _ _ | exact hIb _ _ | exact g_b32 | exact g_and32 | assumption | exact ⟨by omega, by omega⟩) (by first | exact hI _ _ | exact hxI2 _ _ | exact hIa _ _ | exact hIb _ _ | exact g_b32 | exact g_and32 | assumption | exact ⟨by omega, by omega⟩) (fun c2 => ?_) (fun c2 => ?_)
        · skip
          refine g_iinc_4 hc dX1_votedFor_34 rfl ?_
          refine g_goto (tgt := 5) hc dX1_votedFor_37 (by decide) ?_
          refine ih_5 _ _ ?_ ?_ ?_
          · omega
          · rw [g_vfn_i (by omega), ← h4]; first | rw [if_pos (by omega)] | rw [if_neg (by omega)]
          · omega
        · skip
          refine g_iload hc dX1_votedFor_31 rfl ?_
          refine g_istore_3 hc dX1_votedFor_33 rfl ?_
          refine g_iinc_4 hc dX1_votedFor_34 rfl ?_
          refine g_goto (tgt := 5) hc dX1_votedFor_37 (by decide) ?_
          refine ih_5 _ _ ?_ ?_ ?_
          · omega
          · rw [g_vfn_i (by omega), ← h4]; first | rw [if_pos (by omega)] | rw [if_neg (by omega)]
          · omega
  refine lp_5 (m + 1).toNat _ _ ?_ ?_ (?_)
  · omega
  · exact g_vfn_1.symm
  · omega
set_option maxHeartbeats 4000000 in
set_option maxRecDepth 100000 in
/-- X1_winner -/
theorem c_X1_winner (w : g_W) {I : g_I} {J : g_J} {R : g_R} {lb tx : Nat} (hR : g_rf w R lb tx) (hlb : g_life lb) {I2 : g_I} (hI : ∀ k j, g32 (I k j)) (hsI2 : g_off I I2) (hxI2 : ∀ k j, g32 (I2 k j)) (hC : g_cin I lb) {m what : Int} (hm1 : 1 ≤ m ∧ m ≤ I 0 11) (hw : g32 what) : g_Met w g_n I2 J R yX1_winner cX1_winner 5 (some .int) 5 0 0 [(gvr w 686), (gvI m), (gvI what)] (fun rr nn II JJ RR => g_rel w (some (gvI (g_win I lb m what))) g_sH I2 J R rr nn II JJ RR) := by
  refine g_intro (own := RX1) [some (gvr w 686), some (gvI m), some (gvI what), none, none] (by decide +kernel) rfl (by decide) (Nat.le_of_ble_eq_true rfl) rfl (fun i v hv => g_args 2 i v hv rfl) (fun x hc hm => ?_)
  have hL := hC.1
  obtain ⟨hn0, hn1, hLs, hLf⟩ := id hL
  obtain ⟨-, hC1, hC2, hC3, hC4, hC5, hC6, hC7⟩ := id hC
  have hlb5 := hlb
  unfold g_life at hlb5
  have hdI2 : ∀ k : Nat, ¬ g_sH k → I2 k = I2 k := fun _ _ => rfl
  refine g_aldn hc dX1_winner_0 rfl ?_
  refine g_iload_n hc dX1_winner_1 rfl ?_
  refine g_V1 hc (c_X1_hear w hR hlb hI hsI2 hxI2 hC (by omega)) my_X1_hear mv_X1_hear ca_686 rfl rfl lm_X1_97 rfl (by decide) (Nat.le_of_ble_eq_true rfl) hm dX1_winner_2 (fun r3 n3 I3 J3 R3 hp3 => ?_)
  obtain ⟨⟨rfl, rfl, hfI3, hxI3, rfl, rfl⟩, hHI3⟩ := hp3
  have hsI3 : g_off I I3 := fun k hk => (hfI3 k (fun q => hk (by omega))).trans (hsI2 k hk)
  have hdI3 : ∀ k : Nat, ¬ g_sH k → I3 k = I2 k := fun k hk => (hfI3 k (fun q => hk (by omega))).trans (hdI2 k hk)
  refine g_aldn hc dX1_winner_5 rfl ?_
  refine g_getI' hc lk_X1_90 ca_686 6 rfl dX1_winner_6 ?_
  refine g_if_ne (tgt := 14) hc dX1_winner_9 (by decide) (hxI3 _ _) (fun c1 => ?_) (fun c1 => ?_)
  · skip
    have hz0 := c1
    refine g_iconst hc dX1_winner_14 ?_
    refine g_istore_3 hc dX1_winner_15 rfl ?_
    have lp_16 : ∀ (fu : Nat) (i : Int) (Im : g_I), 0 ≤ i ∧ i ≤ m → (∀ t : Int, 0 ≤ t → t < i → Im 689 t = 0) → g_off I Im → (∀ k j, g32 (Im k j)) → (∀ k : Nat, ¬ g_sH k → Im k = I2 k) → g_hrd I lb m Im → m - i < (fu : Int) → G w x (fun rr nn II JJ RR => g_rel w (some (gvI (g_win I lb m what))) g_sH I2 J R rr nn II JJ RR) 0 0 g_n Im J R 16 [some (gvr w 686), some (gvI m), some (gvI what), some (gvI i), none] [] := by
      intro fu
      induction fu with
      | zero => intro i Im h3 hrow hsIm hxIm hdIm hHIm hfu; exfalso; omega
      | succ fu ih =>
        intro i Im h3 hrow hsIm hxIm hdIm hHIm hfu
        have ih_16 := ih
        refine g_iload_n hc dX1_winner_16 rfl ?_
        refine g_iload_n hc dX1_winner_17 rfl ?_
        refine g_icmp_ge (tgt := 34) hc dX1_winner_18 (by decide) (by first | exact hI _ _ | exact hxI2 _ _ | exact hIa _ _ | exact hIb _ _ | exact g_b32 | exact g_and32 | assumption | exact ⟨by omega, by omega⟩) (by first | exact hI _ _ | exact hxI2 _ _ | exact hIa _ _ | exact hIb _ _ | exact g_b32 | exact g_and32 | assumption | exact ⟨by omega, by omega⟩) (fun c2 => ?_) (fun c2 => ?_)
        · skip
          refine g_iconst hc dX1_winner_34 ?_
          refine g_istore_3 hc dX1_winner_35 rfl ?_
          have lp_36 : ∀ (fu : Nat) (i : Int) (In : g_I), 0 ≤ i ∧ i ≤ I lb 0 → (∀ t : Int, 0 ≤ t → t < m → In 689 t = g_vts I lb m t i.toNat) → g_off I In → (∀ k j, g32 (In k j)) → (∀ k : Nat, ¬ g_sH k → In k = I2 k) → g_hrd I lb m In → I lb 0 - i < (fu : Int) → G w x (fun rr nn II JJ RR => g_rel w (some (gvI (g_win I lb m what))) g_sH I2 J R rr nn II JJ RR) 0 0 g_n In J R 36 [some (gvr w 686), some (gvI m), some (gvI what), some (gvI i), none] [] := by
            intro fu
            induction fu with
            | zero => intro i In h5 hrown hsIn hxIn hdIn hHIn hfu; exfalso; omega
            | succ fu ih =>
              intro i In h5 hrown hsIn hxIn hdIn hHIn hfu
              have ih_36 := ih
              refine g_iload_n hc dX1_winner_36 rfl ?_
              refine g_aldn hc dX1_winner_37 rfl ?_
              refine g_getRk hc lk_X1_26 ca_686 (rc_686_0 hR) dX1_winner_38 ?_
              refine g_getRvk hc lk_X1_51 ca_548 (rc_548_3 hR) dX1_winner_41 ?_
              refine g_getIe hc lk_X1_55 (la_0 hlb) 0 rfl (congrFun (hsIn _ (by omega)) _) dX1_winner_44 ?_
              refine g_icmp_ge (tgt := 79) hc dX1_winner_47 (by decide) (by first | exact hI _ _ | exact hxI2 _ _ | exact hIa _ _ | exact hIb _ _ | exact g_b32 | exact g_and32 | assumption | exact ⟨by omega, by omega⟩) (by first | exact hI _ _ | exact hxI2 _ _ | exact hIa _ _ | exact hIb _ _ | exact g_b32 | exact g_and32 | assumption | exact ⟨by omega, by omega⟩) (fun c3 => ?_) (fun c3 => ?_)
              · skip
                have hV9 : (∀ t : Int, 0 ≤ t → t < m → In 689 t = g_vts I lb m t (I lb 0).toNat) := by rw [show I lb 0 = i by omega]; exact hrown
                refine g_iconst hc dX1_winner_79 ?_
                refine g_istore_3 hc dX1_winner_80 rfl ?_
                refine g_iconst hc dX1_winner_81 ?_
                refine g_istore_4 hc dX1_winner_82 rfl ?_
                have lp_84 : ∀ (fu : Nat) (a i : Int), 1 ≤ i ∧ i ≤ m → a = g_wnn (fun t => g_vts I lb m t (I lb 0).toNat) i.toNat → 0 ≤ a ∧ a < i → m - i < (fu : Int) → G w x (fun rr nn II JJ RR => g_rel w (some (gvI (g_win I lb m what))) g_sH I2 J R rr nn II JJ RR) 0 0 g_n In J R 84 [some (gvr w 686), some (gvI m), some (gvI what), some (gvI a), some (gvI i)] [] := by
                  intro fu
                  induction fu with
                  | zero => intro a i h6 h7 h8 hfu; exfalso; omega
                  | succ fu ih =>
                    intro a i h6 h7 h8 hfu
                    have ih_84 := ih
                    refine g_iload hc dX1_winner_84 rfl ?_
                    refine g_iload_n hc dX1_winner_86 rfl ?_
                    refine g_icmp_ge (tgt := 115) hc dX1_winner_87 (by decide) (by first | exact hI _ _ | exact hxI2 _ _ | exact hIa _ _ | exact hIb _ _ | exact g_b32 | exact g_and32 | assumption | exact ⟨by omega, by omega⟩) (by first | exact hI _ _ | exact hxI2 _ _ | exact hIa _ _ | exact hIb _ _ | exact g_b32 | exact g_and32 | assumption | exact ⟨by omega, by omega⟩) (fun c4 => ?_) (fun c4 => ?_)
                    · skip
                      refine g_iload_n hc dX1_winner_115 rfl ?_
                      refine g_if_ne (tgt := 123) hc dX1_winner_116 (by decide) (by first | exact hI _ _ | exact hxI2 _ _ | exact hIa _ _ | exact hIb _ _ | exact g_b32 | exact g_and32 | assumption | exact ⟨by omega, by omega⟩) (fun c5 => ?_) (fun c5 => ?_)
                      · skip
                        refine g_aldn hc dX1_winner_123 rfl ?_
                        refine g_getRk hc lk_X1_18 ca_686 (rc_686_4 hR) dX1_winner_124 ?_
                        refine g_iload_n hc dX1_winner_127 rfl ?_
                        refine g_iald hc ca_689 (by decide) (by omega) (by omega) dX1_winner_128 ?_
                        refine g_iret hc hm dX1_winner_129 ?_
                        have e2 := hV9 a (by omega) (by omega)
                        have e3 : ¬ g_vtb I lb = 0 := by rw [← hHI3.1]; exact hz0
                        have e4 : g_wnn (fun t => g_vts I lb m t (I lb 0).toNat) m.toNat = a := by rw [h7, show m = i by omega]
                        first | exact g_relE (by rw [g_win, if_neg e3, if_pos (by assumption), e4]) hdIn hxIn | exact g_relE (by rw [g_win, if_neg e3, if_neg (by assumption), e4, e2]) hdIn hxIn
                      · skip
                        refine g_iload_n hc dX1_winner_119 rfl ?_
                        refine g_goto (tgt := 129) hc dX1_winner_120 (by decide) ?_
                        refine g_iret hc hm dX1_winner_129 ?_
                        have e2 := hV9 a (by omega) (by omega)
                        have e3 : ¬ g_vtb I lb = 0 := by rw [← hHI3.1]; exact hz0
                        have e4 : g_wnn (fun t => g_vts I lb m t (I lb 0).toNat) m.toNat = a := by rw [h7, show m = i by omega]
                        first | exact g_relE (by rw [g_win, if_neg e3, if_pos (by assumption), e4]) hdIn hxIn | exact g_relE (by rw [g_win, if_neg e3, if_neg (by assumption), e4, e2]) hdIn hxIn
                    · skip
                      have e1 := hV9 i (by omega) (by omega)
                      have e2 := hV9 a (by omega) (by omega)
                      refine g_aldn hc dX1_winner_90 rfl ?_
                      refine g_getRk hc lk_X1_18 ca_686 (rc_686_4 hR) dX1_winner_91 ?_
                      refine g_iload hc dX1_winner_94 rfl ?_
                      refine g_iald hc ca_689 (by decide) (by omega) (by omega) dX1_winner_96 ?_
                      refine g_aldn hc dX1_winner_97 rfl ?_
                      refine g_getRk hc lk_X1_18 ca_686 (rc_686_4 hR) dX1_winner_98 ?_
                      refine g_iload_n hc dX1_winner_101 rfl ?_
                      refine g_iald hc ca_689 (by decide) (by omega) (by omega) dX1_winner_102 ?_
                      refine g_icmp_le (tgt := 109) hc dX1_winner_103 (by decide) (hxIn _ _) (hxIn _ _) (fun c6 => ?_) (fun c6 => ?_)
                      · skip
                        refine g_iinc_4 hc dX1_winner_109 rfl ?_
                        refine g_goto (tgt := 84) hc dX1_winner_112 (by decide) ?_
                        refine ih_84 _ _ ?_ ?_ ?_ ?_
                        · omega
                        · rw [g_wnn_i (by omega), ← h7]; first | rw [if_pos (by show g_vts I lb m a (I lb 0).toNat < g_vts I lb m i (I lb 0).toNat; omega)] | rw [if_neg (by show ¬ g_vts I lb m a (I lb 0).toNat < g_vts I lb m i (I lb 0).toNat; omega)]
                        · omega
                        · omega
                      · skip
                        refine g_iload hc dX1_winner_106 rfl ?_
                        refine g_istore_3 hc dX1_winner_108 rfl ?_
                        refine g_iinc_4 hc dX1_winner_109 rfl ?_
                        refine g_goto (tgt := 84) hc dX1_winner_112 (by decide) ?_
                        refine ih_84 _ _ ?_ ?_ ?_ ?_
                        · omega
                        · rw [g_wnn_i (by omega), ← h7]; first | rw [if_pos (by show g_vts I lb m a (I lb 0).toNat < g_vts I lb m i (I lb 0).toNat; omega)] | rw [if_neg (by show ¬ g_vts I lb m a (I lb 0).toNat < g_vts I lb m i (I lb 0).toNat; omega)]
                        · omega
                        · omega
                refine lp_84 (m + 1).toNat _ _ ?_ ?_ ?_ (?_)
                · omega
                · exact g_wnn_1.symm
                · omega
                · omega
              · skip
                refine g_aldn hc dX1_winner_50 rfl ?_
                refine g_iload_n hc dX1_winner_51 rfl ?_
                refine g_V1r hc (c_X1_isVoter w hR hlb hI hsIn hxIn hC hHIn (by omega)) my_X1_isVoter mv_X1_isVoter ca_686 rfl rfl lm_X1_101 rfl (by decide) (Nat.le_of_ble_eq_true rfl) hm dX1_winner_52 ?_
                refine g_ifb_eq (tgt := 73) hc dX1_winner_55 (by decide)  (fun c7 => ?_) (fun c7 => ?_)
                · skip
                  refine g_iinc_3 hc dX1_winner_73 rfl ?_
                  refine g_goto (tgt := 36) hc dX1_winner_76 (by decide) ?_
                  refine ih_36 _ _ ?_ ?_ ?_ ?_ ?_ ?_ ?_
                  · omega
                  · first | exact hz2 | exact (fun t h0 h1 => by rw [g_vts, g_sum_i h5.1, if_neg (fun z => absurd z.1 (by assumption)), Int.add_zero]; exact hrown t h0 h1)
                  · exact hsIn
                  · exact hxIn
                  · exact hdIn
                  · exact hHIn
                  · omega
                · skip
                  have hvv := g_vfn_in (I := I) (b := lb) (s := i) m.toNat (by omega)
                  have hvw := g_vts_in (I := I) (b := lb) (m := m) (t := g_vfn I lb i m.toNat) i.toNat
                  rw [← hrown _ hvv.1 (by omega)] at hvw
                  refine g_aldn hc dX1_winner_58 rfl ?_
                  refine g_getRk hc lk_X1_18 ca_686 (rc_686_4 hR) dX1_winner_59 ?_
                  refine g_aldn hc dX1_winner_62 rfl ?_
                  refine g_iload_n hc dX1_winner_63 rfl ?_
                  refine g_iload_n hc dX1_winner_64 rfl ?_
                  refine g_V2r hc (c_X1_votedFor w hR hlb hI hsIn hxIn hC (by omega) hHIn (by omega) (by assumption)) my_X1_votedFor mv_X1_votedFor ca_686 rfl rfl lm_X1_104 rfl (by decide) (Nat.le_of_ble_eq_true rfl) hm dX1_winner_65 ?_
                  refine g_dup2 hc dX1_winner_68 rfl rfl ?_
                  refine g_iald hc ca_689 (by decide) (by omega) (by omega) dX1_winner_69 ?_
                  refine g_iconst hc dX1_winner_70 ?_
                  refine g_iadd hc dX1_winner_71 ?_
                  obtain ⟨I4, hI4⟩ : ∃ I4, I4 = g_up In 689 (g_vfn I lb i (m).toNat) ((In 689 (g_vfn I lb i (m).toNat)) + 1) := ⟨_, rfl⟩
                  have hsI4 : g_off I I4 := fun k hk => by
                    rw [hI4]; funext j; rw [g_up_k (by omega)]; exact congrFun (hsIn k hk) j
                  have hfI4 : ∀ k : Nat, k ≠ 689 → I4 k = In k := fun k hk => by rw [hI4]; funext j; exact g_up_k hk
                  have hdI4 : ∀ k : Nat, ¬ g_sH k → I4 k = I2 k := fun k hk => (hfI4 k (by omega)).trans (hdIn k hk)
                  have hxI4 : ∀ k j, g32 (I4 k j) := by rw [hI4]; exact g_up32 hxIn (by exact ⟨by omega, by omega⟩)
                  refine g_iaste (I2 := I4) hc ca_689 (by decide) (by omega) (by omega) hI4.symm dX1_winner_72 ?_
                  have hHI4 : g_hrd I lb m I4 := ⟨by rw [hfI4 _ (by decide)]; exact hHIn.1, fun τ s h0 h1 h2 h3 hv => by rw [hfI4 _ (by omega)]; exact hHIn.2 τ s h0 h1 h2 h3 hv⟩
                  have hz2 : (∀ t : Int, 0 ≤ t → t < m → I4 689 t = g_vts I lb m t (i + 1).toNat) := fun t h0 h1 => by
                    rw [hI4, g_vts, g_sum_i h5.1]
                    by_cases e : t = g_vfn I lb i m.toNat
                    · rw [e, g_up_s, hrown _ hvv.1 (by omega), if_pos ⟨by assumption, rfl⟩]; rfl
                    · rw [g_up_i e, hrown t h0 h1, if_neg (fun z => e z.2.symm), Int.add_zero]; rfl
                  refine g_iinc_3 hc dX1_winner_73 rfl ?_
                  refine g_goto (tgt := 36) hc dX1_winner_76 (by decide) ?_
                  refine ih_36 _ _ ?_ ?_ ?_ ?_ ?_ ?_ ?_
                  · omega
                  · first | exact hz2 | exact (fun t h0 h1 => by rw [g_vts, g_sum_i h5.1, if_neg (fun z => absurd z.1 (by assumption)), Int.add_zero]; exact hrown t h0 h1)
                  · exact hsI4
                  · exact hxI4
                  · exact hdI4
                  · exact hHI4
                  · omega
          refine lp_36 (I lb 0 + 1).toNat _ _ ?_ ?_ ?_ ?_ ?_ ?_ (?_)
          · omega
          · intro t h0 h1; exact hrow t h0 (by omega)
          · exact hsIm
          · exact hxIm
          · exact hdIm
          · exact hHIm
          · omega
        · skip
          refine g_aldn hc dX1_winner_21 rfl ?_
          refine g_getRk hc lk_X1_18 ca_686 (rc_686_4 hR) dX1_winner_22 ?_
          refine g_iload_n hc dX1_winner_25 rfl ?_
          refine g_iconst hc dX1_winner_26 ?_
          obtain ⟨I5, hI5⟩ : ∃ I5, I5 = g_up Im 689 i 0 := ⟨_, rfl⟩
          have hsI5 : g_off I I5 := fun k hk => by
            rw [hI5]; funext j; rw [g_up_k (by omega)]; exact congrFun (hsIm k hk) j
          have hfI5 : ∀ k : Nat, k ≠ 689 → I5 k = Im k := fun k hk => by rw [hI5]; funext j; exact g_up_k hk
          have hdI5 : ∀ k : Nat, ¬ g_sH k → I5 k = I2 k := fun k hk => (hfI5 k (by omega)).trans (hdIm k hk)
          have hxI5 : ∀ k j, g32 (I5 k j) := by rw [hI5]; exact g_up32 hxIm (by first | exact hI _ _ | exact hxI2 _ _ | exact hIa _ _ | exact hIb _ _ | exact g_b32 | exact g_and32 | assumption | exact ⟨by omega, by omega⟩)
          refine g_iaste (I2 := I5) hc ca_689 (by decide) (by omega) (by omega) hI5.symm dX1_winner_27 ?_
          have hHI5 : g_hrd I lb m I5 := ⟨by rw [hfI5 _ (by decide)]; exact hHIm.1, fun τ s h0 h1 h2 h3 hv => by rw [hfI5 _ (by omega)]; exact hHIm.2 τ s h0 h1 h2 h3 hv⟩
          have hz1 : ∀ t : Int, 0 ≤ t → t < i + 1 → I5 689 t = 0 := fun t h0 h1 => by
            rw [hI5]
            by_cases e : t = i
            · rw [e, g_up_s]
            · rw [g_up_i e]; exact hrow t h0 (by omega)
          refine g_iinc_3 hc dX1_winner_28 rfl ?_
          refine g_goto (tgt := 16) hc dX1_winner_31 (by decide) ?_
          refine ih_16 _ _ ?_ ?_ ?_ ?_ ?_ ?_ ?_
          · omega
          · exact hz1
          · exact hsI5
          · exact hxI5
          · exact hdI5
          · exact hHI5
          · omega
    refine lp_16 (m + 1).toNat _ _ ?_ ?_ ?_ ?_ ?_ ?_ (?_)
    · omega
    · intro t _ _; omega
    · exact hsI3
    · exact hxI3
    · exact hdI3
    · exact hHI3
    · omega
  · skip
    have hz0 := c1
    refine g_iconst hc dX1_winner_12 ?_
    refine g_iret hc hm dX1_winner_13 ?_
    exact g_relE (by rw [g_win, if_pos (by rw [← hHI3.1]; exact hz0)]) hdI3 hxI3
set_option maxHeartbeats 4000000 in
set_option maxRecDepth 100000 in
/-- X1_ahead -/
theorem c_X1_ahead (w : g_W) {I : g_I} {J : g_J} {R : g_R} {lb tx : Nat} (hR : g_rf w R lb tx) (hlb : g_life lb) {I2 : g_I} (hI : ∀ k j, g32 (I k j)) (hsI2 : g_off I I2) (hxI2 : ∀ k j, g32 (I2 k j)) (hC : g_cin I lb) {m t q : Int} (hm1 : 0 ≤ m ∧ m ≤ I 0 11) (hHI2 : g_hrd I lb m I2) (h1 : 0 ≤ t ∧ t < m) (h2 : 0 ≤ q ∧ q < m) : g_Met w g_n I2 J R yX1_ahead cX1_ahead 5 (some .int) 1 0 0 [(gvr w 686), (gvI t), (gvI q)] (g_post (some (gvI (g_ahd I lb t q))) g_n I2 J R) := by
  refine g_intro (own := RX1) [some (gvr w 686), some (gvI t), some (gvI q), none, none] (by decide +kernel) rfl (by decide) (Nat.le_of_ble_eq_true rfl) rfl (fun i v hv => g_args 2 i v hv rfl) (fun x hc hm => ?_)
  have hL := hC.1
  obtain ⟨hn0, hn1, hLs, hLf⟩ := id hL
  obtain ⟨-, hC1, hC2, hC3, hC4, hC5, hC6, hC7⟩ := id hC
  have hlb5 := hlb
  unfold g_life at hlb5
  have hdI2 : ∀ k : Nat, ¬ g_sH k → I2 k = I2 k := fun _ _ => rfl
  refine g_iconst hc dX1_ahead_0 ?_
  refine g_istore_3 hc dX1_ahead_1 rfl ?_
  refine g_iconst hc dX1_ahead_2 ?_
  refine g_istore_4 hc dX1_ahead_3 rfl ?_
  have lp_5 : ∀ (fu : Nat) (a i : Int), 0 ≤ i ∧ i ≤ I lb 0 → a = g_sum (fun s => if g_vtr I lb s then g_cmp (g_wby I lb t s) (g_wby I lb q s) else 0) i.toNat → I lb 0 - i < (fu : Int) → G w x (g_post (some (gvI (g_ahd I lb t q))) g_n I2 J R) 0 0 g_n I2 J R 5 [some (gvr w 686), some (gvI t), some (gvI q), some (gvI a), some (gvI i)] [] := by
    intro fu
    induction fu with
    | zero => intro a i h3 h4 hfu; exfalso; omega
    | succ fu ih =>
      intro a i h3 h4 hfu
      have ih_5 := ih
      refine g_iload hc dX1_ahead_5 rfl ?_
      refine g_aldn hc dX1_ahead_7 rfl ?_
      refine g_getRk hc lk_X1_26 ca_686 (rc_686_0 hR) dX1_ahead_8 ?_
      refine g_getRvk hc lk_X1_51 ca_548 (rc_548_3 hR) dX1_ahead_11 ?_
      refine g_getIe hc lk_X1_55 (la_0 hlb) 0 rfl (congrFun (hsI2 _ (by omega)) _) dX1_ahead_14 ?_
      refine g_icmp_ge (tgt := 59) hc dX1_ahead_17 (by decide) (by first | exact hI _ _ | exact hxI2 _ _ | exact hIa _ _ | exact hIb _ _ | exact g_b32 | exact g_and32 | assumption | exact ⟨by omega, by omega⟩) (by first | exact hI _ _ | exact hxI2 _ _ | exact hIa _ _ | exact hIb _ _ | exact g_b32 | exact g_and32 | assumption | exact ⟨by omega, by omega⟩) (fun c1 => ?_) (fun c1 => ?_)
      · skip
        refine g_iload_n hc dX1_ahead_59 rfl ?_
        refine g_iret hc hm dX1_ahead_60 ?_
        exact g_postE (by rw [g_ahd, h4, show I lb 0 = i by omega])
      · skip
        refine g_aldn hc dX1_ahead_20 rfl ?_
        refine g_iload hc dX1_ahead_21 rfl ?_
        refine g_V1r hc (c_X1_isVoter w hR hlb hI hsI2 hxI2 hC hHI2 (by omega)) my_X1_isVoter mv_X1_isVoter ca_686 rfl rfl lm_X1_101 rfl (by decide) (Nat.le_of_ble_eq_true rfl) hm dX1_ahead_23 ?_
        refine g_ifb_eq (tgt := 53) hc dX1_ahead_26 (by decide)  (fun c2 => ?_) (fun c2 => ?_)
        · skip
          refine g_iinc_4 hc dX1_ahead_53 rfl ?_
          refine g_goto (tgt := 5) hc dX1_ahead_56 (by decide) ?_
          refine ih_5 _ _ ?_ ?_ ?_
          · omega
          · rw [g_sum_i h3.1, h4]; first | rw [if_pos (show g_vtr I lb i by assumption), g_cmp, ← e1, ← e2] | rw [if_neg (show ¬ g_vtr I lb i by assumption), Int.add_zero]
          · omega
        · skip
          have e1 := hHI2.2 t i h1.1 h1.2 (by omega) (by omega) c2
          have e2 := hHI2.2 q i h2.1 h2.2 (by omega) (by omega) c2
          refine g_iload_n hc dX1_ahead_29 rfl ?_
          refine g_aldn hc dX1_ahead_30 rfl ?_
          refine g_getRk hc lk_X1_23 ca_686 (rc_686_5 hR) dX1_ahead_31 ?_
          refine g_iload_n hc dX1_ahead_34 rfl ?_
          refine g_aaldk hc ca_690 (by decide) rfl rfl (by decide) (by omega) (by omega) (ra_690 hR (by omega) (by omega)) dX1_ahead_35 ?_
          refine g_iload hc dX1_ahead_36 rfl ?_
          refine g_iald hc (wo_at (i := t) (by omega) (by omega)) (by decide) (by omega) (by omega) dX1_ahead_38 ?_
          refine g_aldn hc dX1_ahead_39 rfl ?_
          refine g_getRk hc lk_X1_23 ca_686 (rc_686_5 hR) dX1_ahead_40 ?_
          refine g_iload_n hc dX1_ahead_43 rfl ?_
          refine g_aaldk hc ca_690 (by decide) rfl rfl (by decide) (by omega) (by omega) (ra_690 hR (by omega) (by omega)) dX1_ahead_44 ?_
          refine g_iload hc dX1_ahead_45 rfl ?_
          refine g_iald hc (wo_at (i := q) (by omega) (by omega)) (by decide) (by omega) (by omega) dX1_ahead_47 ?_
          refine g_S2r hc (c_J6_compare_7cf53 w (by first | exact hI _ _ | exact hxI2 _ _ | exact hIa _ _ | exact hIb _ _ | exact g_b32 | exact g_and32 | assumption | exact ⟨by omega, by omega⟩) (by first | exact hI _ _ | exact hxI2 _ _ | exact hIa _ _ | exact hIb _ _ | exact g_b32 | exact g_and32 | assumption | exact ⟨by omega, by omega⟩)) my_J6_compare_7cf53 ms_J6_compare_7cf53 lm_X1_107 rfl (by decide) (Nat.le_of_ble_eq_true rfl) hm dX1_ahead_48 ?_
          refine g_iadd hc dX1_ahead_51 ?_
          refine g_istore_3 hc dX1_ahead_52 rfl ?_
          refine g_iinc_4 hc dX1_ahead_53 rfl ?_
          refine g_goto (tgt := 5) hc dX1_ahead_56 (by decide) ?_
          refine ih_5 _ _ ?_ ?_ ?_
          · omega
          · rw [g_sum_i h3.1, h4]; first | rw [if_pos (show g_vtr I lb i by assumption), g_cmp, ← e1, ← e2] | rw [if_neg (show ¬ g_vtr I lb i by assumption), Int.add_zero]
          · omega
  refine lp_5 (I lb 0 + 1).toNat _ _ ?_ ?_ (?_)
  · omega
  · rfl
  · omega
set_option maxHeartbeats 4000000 in
set_option maxRecDepth 100000 in
/-- X1_beatsAll -/
theorem c_X1_beatsAll (w : g_W) {I : g_I} {J : g_J} {R : g_R} {lb tx : Nat} (hR : g_rf w R lb tx) (hlb : g_life lb) {I2 : g_I} (hI : ∀ k j, g32 (I k j)) (hsI2 : g_off I I2) (hxI2 : ∀ k j, g32 (I2 k j)) (hC : g_cin I lb) {m : Int} (hm1 : 0 ≤ m ∧ m ≤ I 0 11) : g_Met w g_n I2 J R yX1_beatsAll cX1_beatsAll 5 (some .int) 5 0 0 [(gvr w 686), (gvI m)] (fun rr nn II JJ RR => g_rel w (some (gvI (g_bta I lb m))) g_sH I2 J R rr nn II JJ RR) := by
  refine g_intro (own := RX1) [some (gvr w 686), some (gvI m), none, none, none] (by decide +kernel) rfl (by decide) (Nat.le_of_ble_eq_true rfl) rfl (fun i v hv => g_args 3 i v hv rfl) (fun x hc hm => ?_)
  have hL := hC.1
  obtain ⟨hn0, hn1, hLs, hLf⟩ := id hL
  obtain ⟨-, hC1, hC2, hC3, hC4, hC5, hC6, hC7⟩ := id hC
  have hlb5 := hlb
  unfold g_life at hlb5
  have hdI2 : ∀ k : Nat, ¬ g_sH k → I2 k = I2 k := fun _ _ => rfl
  refine g_aldn hc dX1_beatsAll_0 rfl ?_
  refine g_iload_n hc dX1_beatsAll_1 rfl ?_
  refine g_V1 hc (c_X1_hear w hR hlb hI hsI2 hxI2 hC (by omega)) my_X1_hear mv_X1_hear ca_686 rfl rfl lm_X1_97 rfl (by decide) (Nat.le_of_ble_eq_true rfl) hm dX1_beatsAll_2 (fun r3 n3 I3 J3 R3 hp3 => ?_)
  obtain ⟨⟨rfl, rfl, hfI3, hxI3, rfl, rfl⟩, hHI3⟩ := hp3
  have hsI3 : g_off I I3 := fun k hk => (hfI3 k (fun q => hk (by omega))).trans (hsI2 k hk)
  have hdI3 : ∀ k : Nat, ¬ g_sH k → I3 k = I2 k := fun k hk => (hfI3 k (fun q => hk (by omega))).trans (hdI2 k hk)
  refine g_iconst hc dX1_beatsAll_5 ?_
  refine g_istore_2 hc dX1_beatsAll_6 rfl ?_
  have lp_7 : ∀ (fu : Nat) (i : Int), 0 ≤ i ∧ i ≤ m → g_bta I lb m = g_first (fun t => g_btw I lb m t) (m - i).toNat i → m - i < (fu : Int) → G w x (fun rr nn II JJ RR => g_rel w (some (gvI (g_bta I lb m))) g_sH I2 J R rr nn II JJ RR) 0 0 g_n I3 J R 7 [some (gvr w 686), some (gvI m), some (gvI i), none, none] [] := by
    intro fu
    induction fu with
    | zero => intro i h3 h4 hfu; exfalso; omega
    | succ fu ih =>
      intro i h3 h4 hfu
      have ih_7 := ih
      refine g_iload_n hc dX1_beatsAll_7 rfl ?_
      refine g_iload_n hc dX1_beatsAll_8 rfl ?_
      refine g_icmp_ge (tgt := 67) hc dX1_beatsAll_9 (by decide) (by first | exact hI _ _ | exact hxI2 _ _ | exact hIa _ _ | exact hIb _ _ | exact g_b32 | exact g_and32 | assumption | exact ⟨by omega, by omega⟩) (by first | exact hI _ _ | exact hxI2 _ _ | exact hIa _ _ | exact hIb _ _ | exact g_b32 | exact g_and32 | assumption | exact ⟨by omega, by omega⟩) (fun c1 => ?_) (fun c1 => ?_)
      · skip
        refine g_iconst hc dX1_beatsAll_67 ?_
        refine g_iret hc hm dX1_beatsAll_68 ?_
        exact g_relE (by rw [h4, g_first_e (by omega)]) hdI3 hxI3
      · skip
        refine g_iconst hc dX1_beatsAll_12 ?_
        refine g_istore_3 hc dX1_beatsAll_13 rfl ?_
        refine g_iconst hc dX1_beatsAll_14 ?_
        refine g_istore_4 hc dX1_beatsAll_15 rfl ?_
        have lp_17 : ∀ (fu : Nat) (d k : Int), 0 ≤ k ∧ k ≤ m → (d = 1 ∧ g_btw I lb m i = g_all (fun q => decide (q = i ∨ 0 < g_ahd I lb i q)) (m - k).toNat k) ∨ (d = 0 ∧ g_btw I lb m i = false) → m - k < (fu : Int) → G w x (fun rr nn II JJ RR => g_rel w (some (gvI (g_bta I lb m))) g_sH I2 J R rr nn II JJ RR) 0 0 g_n I3 J R 17 [some (gvr w 686), some (gvI m), some (gvI i), some (gvI d), some (gvI k)] [] := by
          intro fu
          induction fu with
          | zero => intro d k h5 h6 hfu; exfalso; omega
          | succ fu ih =>
            intro d k h5 h6 hfu
            have ih_17 := ih
            refine g_iload hc dX1_beatsAll_17 rfl ?_
            refine g_iload_n hc dX1_beatsAll_19 rfl ?_
            refine g_icmp_ge (tgt := 55) hc dX1_beatsAll_20 (by decide) (by first | exact hI _ _ | exact hxI2 _ _ | exact hIa _ _ | exact hIb _ _ | exact g_b32 | exact g_and32 | assumption | exact ⟨by omega, by omega⟩) (by first | exact hI _ _ | exact hxI2 _ _ | exact hIa _ _ | exact hIb _ _ | exact g_b32 | exact g_and32 | assumption | exact ⟨by omega, by omega⟩) (fun c2 => ?_) (fun c2 => ?_)
            · skip
              refine g_iload_n hc dX1_beatsAll_55 rfl ?_
              refine g_if_eq (tgt := 61) hc dX1_beatsAll_56 (by decide) (by first | exact hI _ _ | exact hxI2 _ _ | exact hIa _ _ | exact hIb _ _ | exact g_b32 | exact g_and32 | assumption | exact ⟨by omega, by omega⟩) (fun c3 => ?_) (fun c3 => ?_)
              · skip
                refine g_iinc_2 hc dX1_beatsAll_61 rfl ?_
                refine g_goto (tgt := 7) hc dX1_beatsAll_64 (by decide) ?_
                refine G_sub (L' := [some (gvr w 686), some (gvI m), some (gvI (i + 1)), none, none]) (show g_le _ _ from ⟨rfl, ⟨rfl, ⟨rfl, trivial⟩⟩⟩) ?_
                refine ih_7 _ ?_ ?_ ?_
                · omega
                · rw [h4, g_first_f (by omega) (by show ¬ g_btw I lb m i = true; first | (rw [h6.2]; decide) | (rcases h6 with h6 | h6; (exact absurd h6.1 (by omega)); (rw [h6.2]; decide)))]
                · omega
              · skip
                refine g_iload_n hc dX1_beatsAll_59 rfl ?_
                refine g_iret hc hm dX1_beatsAll_60 ?_
                rcases h6 with h6 | h6
                · have hE : g_bta I lb m = i := by
                    rw [h4]
                    exact g_first_t (by omega) (by show g_btw I lb m i = true; rw [h6.2]; exact g_all_e (by omega))
                  exact g_relE (by rw [hE]) hdI3 hxI3
                · omega
            · skip
              refine g_iload_n hc dX1_beatsAll_23 rfl ?_
              refine g_if_eq (tgt := 55) hc dX1_beatsAll_24 (by decide) (by first | exact hI _ _ | exact hxI2 _ _ | exact hIa _ _ | exact hIb _ _ | exact g_b32 | exact g_and32 | assumption | exact ⟨by omega, by omega⟩) (fun c4 => ?_) (fun c4 => ?_)
              · skip
                refine g_iload_n hc dX1_beatsAll_55 rfl ?_
                refine g_if_eq (tgt := 61) hc dX1_beatsAll_56 (by decide) (by first | exact hI _ _ | exact hxI2 _ _ | exact hIa _ _ | exact hIb _ _ | exact g_b32 | exact g_and32 | assumption | exact ⟨by omega, by omega⟩) (fun c5 => ?_) (fun c5 => ?_)
                · skip
                  refine g_iinc_2 hc dX1_beatsAll_61 rfl ?_
                  refine g_goto (tgt := 7) hc dX1_beatsAll_64 (by decide) ?_
                  refine G_sub (L' := [some (gvr w 686), some (gvI m), some (gvI (i + 1)), none, none]) (show g_le _ _ from ⟨rfl, ⟨rfl, ⟨rfl, trivial⟩⟩⟩) ?_
                  refine ih_7 _ ?_ ?_ ?_
                  · omega
                  · rw [h4, g_first_f (by omega) (by show ¬ g_btw I lb m i = true; first | (rw [h6.2]; decide) | (rcases h6 with h6 | h6; (exact absurd h6.1 (by omega)); (rw [h6.2]; decide)))]
                  · omega
                · skip
                  refine g_iload_n hc dX1_beatsAll_59 rfl ?_
                  refine g_iret hc hm dX1_beatsAll_60 ?_
                  rcases h6 with h6 | h6
                  · have hE : g_bta I lb m = i := by
                      rw [h4]
                      exact g_first_t (by omega) (by show g_btw I lb m i = true; rw [h6.2]; exact g_all_e (by omega))
                    exact g_relE (by rw [hE]) hdI3 hxI3
                  · omega
              · skip
                refine g_iload hc dX1_beatsAll_27 rfl ?_
                refine g_iload_n hc dX1_beatsAll_29 rfl ?_
                refine g_icmp_eq (tgt := 43) hc dX1_beatsAll_30 (by decide) (by first | exact hI _ _ | exact hxI2 _ _ | exact hIa _ _ | exact hIb _ _ | exact g_b32 | exact g_and32 | assumption | exact ⟨by omega, by omega⟩) (by first | exact hI _ _ | exact hxI2 _ _ | exact hIa _ _ | exact hIb _ _ | exact g_b32 | exact g_and32 | assumption | exact ⟨by omega, by omega⟩) (fun c6 => ?_) (fun c6 => ?_)
                · skip
                  refine g_iconst hc dX1_beatsAll_43 ?_
                  refine g_goto (tgt := 48) hc dX1_beatsAll_44 (by decide) ?_
                  refine g_istore_3 hc dX1_beatsAll_48 rfl ?_
                  refine g_iinc_4 hc dX1_beatsAll_49 rfl ?_
                  refine g_goto (tgt := 17) hc dX1_beatsAll_52 (by decide) ?_
                  refine ih_17 _ _ ?_ ?_ ?_
                  · omega
                  · rcases h6 with h6 | h6
                    · first | exact Or.inl ⟨rfl, by rw [h6.2, g_all_t (by omega) (by simp only [decide_eq_true_eq]; first | exact Or.inl (by omega) | exact Or.inr (by omega))]⟩ | exact Or.inr ⟨rfl, by rw [h6.2, g_all_f (by omega) (by simp only [decide_eq_true_eq]; intro z; omega)]⟩
                    · omega
                  · omega
                · skip
                  have hah := g_ahd_in (I := I) (b := lb) (t := i) (q := k) ⟨hn0.1, hn0.2⟩
                  refine g_aldn hc dX1_beatsAll_33 rfl ?_
                  refine g_iload_n hc dX1_beatsAll_34 rfl ?_
                  refine g_iload hc dX1_beatsAll_35 rfl ?_
                  refine g_V2r hc (c_X1_ahead w hR hlb hI hsI3 hxI3 hC (by omega) hHI3 (by omega) (by omega)) my_X1_ahead mv_X1_ahead ca_686 rfl rfl lm_X1_110 rfl (by decide) (Nat.le_of_ble_eq_true rfl) hm dX1_beatsAll_37 ?_
                  refine g_if_le (tgt := 47) hc dX1_beatsAll_40 (by decide) (by first | exact hI _ _ | exact hxI2 _ _ | exact hIa _ _ | exact hIb _ _ | exact g_b32 | exact g_and32 | assumption | exact ⟨by omega, by omega⟩) (fun c7 => ?_) (fun c7 => ?_)
                  · skip
                    refine g_iconst hc dX1_beatsAll_47 ?_
                    refine g_istore_3 hc dX1_beatsAll_48 rfl ?_
                    refine g_iinc_4 hc dX1_beatsAll_49 rfl ?_
                    refine g_goto (tgt := 17) hc dX1_beatsAll_52 (by decide) ?_
                    refine ih_17 _ _ ?_ ?_ ?_
                    · omega
                    · rcases h6 with h6 | h6
                      · first | exact Or.inl ⟨rfl, by rw [h6.2, g_all_t (by omega) (by simp only [decide_eq_true_eq]; first | exact Or.inl (by omega) | exact Or.inr (by omega))]⟩ | exact Or.inr ⟨rfl, by rw [h6.2, g_all_f (by omega) (by simp only [decide_eq_true_eq]; intro z; omega)]⟩
                      · omega
                    · omega
                  · skip
                    refine g_iconst hc dX1_beatsAll_43 ?_
                    refine g_goto (tgt := 48) hc dX1_beatsAll_44 (by decide) ?_
                    refine g_istore_3 hc dX1_beatsAll_48 rfl ?_
                    refine g_iinc_4 hc dX1_beatsAll_49 rfl ?_
                    refine g_goto (tgt := 17) hc dX1_beatsAll_52 (by decide) ?_
                    refine ih_17 _ _ ?_ ?_ ?_
                    · omega
                    · rcases h6 with h6 | h6
                      · first | exact Or.inl ⟨rfl, by rw [h6.2, g_all_t (by omega) (by simp only [decide_eq_true_eq]; first | exact Or.inl (by omega) | exact Or.inr (by omega))]⟩ | exact Or.inr ⟨rfl, by rw [h6.2, g_all_f (by omega) (by simp only [decide_eq_true_eq]; intro z; omega)]⟩
                      · omega
                    · omega
        refine lp_17 (m + 1).toNat _ _ ?_ ?_ (?_)
        · omega
        · exact Or.inl ⟨rfl, by rw [Int.sub_zero]; rfl⟩
        · omega
  refine lp_7 (m + 1).toNat _ ?_ ?_ (?_)
  · omega
  · rw [Int.sub_zero]; rfl
  · omega
set_option maxHeartbeats 4000000 in
set_option maxRecDepth 100000 in
/-- X1_ringEnd -/
theorem c_X1_ringEnd (w : g_W) {I : g_I} {J : g_J} {R : g_R} {lb tx : Nat} (hR : g_rf w R lb tx) (hlb : g_life lb) {I2 : g_I} (hI : ∀ k j, g32 (I k j)) (hsI2 : g_off I I2) (hxI2 : ∀ k j, g32 (I2 k j)) (hC : g_cin I lb) {m t q : Int} (hm1 : 0 ≤ m ∧ m ≤ I 0 11) (hHI2 : g_hrd I lb m I2) (h1 : 0 ≤ t ∧ t < m) (h2 : 0 ≤ q ∧ q < m) : g_Met w g_n I2 J R yX1_ringEnd cX1_ringEnd 5 (some .int) 2 0 0 [(gvr w 686), (gvI t), (gvI q), (gvI m)] (g_post (some (gvI (g_rnd I lb m t q))) g_n I2 J R) := by
  refine g_intro (own := RX1) [some (gvr w 686), some (gvI t), some (gvI q), some (gvI m), none] (by decide +kernel) rfl (by decide) (Nat.le_of_ble_eq_true rfl) rfl (fun i v hv => g_args 1 i v hv rfl) (fun x hc hm => ?_)
  have hL := hC.1
  obtain ⟨hn0, hn1, hLs, hLf⟩ := id hL
  obtain ⟨-, hC1, hC2, hC3, hC4, hC5, hC6, hC7⟩ := id hC
  have hlb5 := hlb
  unfold g_life at hlb5
  have hdI2 : ∀ k : Nat, ¬ g_sH k → I2 k = I2 k := fun _ _ => rfl
  refine g_iconst hc dX1_ringEnd_0 ?_
  refine g_istore_4 hc dX1_ringEnd_1 rfl ?_
  have lp_3 : ∀ (fu : Nat) (i : Int), 0 ≤ i ∧ i ≤ m → g_rnd I lb m t q = g_first (fun l => decide (0 < g_ahd I lb q l ∧ 0 < g_ahd I lb l t)) (m - i).toNat i → m - i < (fu : Int) → G w x (g_post (some (gvI (g_rnd I lb m t q))) g_n I2 J R) 0 0 g_n I2 J R 3 [some (gvr w 686), some (gvI t), some (gvI q), some (gvI m), some (gvI i)] [] := by
    intro fu
    induction fu with
    | zero => intro i h3 h4 hfu; exfalso; omega
    | succ fu ih =>
      intro i h3 h4 hfu
      have ih_3 := ih
      refine g_iload hc dX1_ringEnd_3 rfl ?_
      refine g_iload_n hc dX1_ringEnd_5 rfl ?_
      refine g_icmp_ge (tgt := 38) hc dX1_ringEnd_6 (by decide) (by first | exact hI _ _ | exact hxI2 _ _ | exact hIa _ _ | exact hIb _ _ | exact g_b32 | exact g_and32 | assumption | exact ⟨by omega, by omega⟩) (by first | exact hI _ _ | exact hxI2 _ _ | exact hIa _ _ | exact hIb _ _ | exact g_b32 | exact g_and32 | assumption | exact ⟨by omega, by omega⟩) (fun c1 => ?_) (fun c1 => ?_)
      · skip
        refine g_iconst hc dX1_ringEnd_38 ?_
        refine g_iret hc hm dX1_ringEnd_39 ?_
        exact g_postE (by rw [h4, g_first_e (by omega)])
      · skip
        have ha1 := g_ahd_in (I := I) (b := lb) (t := q) (q := i) ⟨hn0.1, hn0.2⟩
        have ha2 := g_ahd_in (I := I) (b := lb) (t := i) (q := t) ⟨hn0.1, hn0.2⟩
        refine g_aldn hc dX1_ringEnd_9 rfl ?_
        refine g_iload_n hc dX1_ringEnd_10 rfl ?_
        refine g_iload hc dX1_ringEnd_11 rfl ?_
        refine g_V2r hc (c_X1_ahead w hR hlb hI hsI2 hxI2 hC (by omega) hHI2 (by omega) (by omega)) my_X1_ahead mv_X1_ahead ca_686 rfl rfl lm_X1_110 rfl (by decide) (Nat.le_of_ble_eq_true rfl) hm dX1_ringEnd_13 ?_
        refine g_if_le (tgt := 32) hc dX1_ringEnd_16 (by decide) (by first | exact hI _ _ | exact hxI2 _ _ | exact hIa _ _ | exact hIb _ _ | exact g_b32 | exact g_and32 | assumption | exact ⟨by omega, by omega⟩) (fun c2 => ?_) (fun c2 => ?_)
        · skip
          refine g_iinc_4 hc dX1_ringEnd_32 rfl ?_
          refine g_goto (tgt := 3) hc dX1_ringEnd_35 (by decide) ?_
          refine ih_3 _ ?_ ?_ ?_
          · omega
          · rw [h4, g_first_f (by omega) (by simp only [decide_eq_true_eq]; intro z; omega)]
          · omega
        · skip
          refine g_aldn hc dX1_ringEnd_19 rfl ?_
          refine g_iload hc dX1_ringEnd_20 rfl ?_
          refine g_iload_n hc dX1_ringEnd_22 rfl ?_
          refine g_V2r hc (c_X1_ahead w hR hlb hI hsI2 hxI2 hC (by omega) hHI2 (by omega) (by omega)) my_X1_ahead mv_X1_ahead ca_686 rfl rfl lm_X1_110 rfl (by decide) (Nat.le_of_ble_eq_true rfl) hm dX1_ringEnd_23 ?_
          refine g_if_le (tgt := 32) hc dX1_ringEnd_26 (by decide) (by first | exact hI _ _ | exact hxI2 _ _ | exact hIa _ _ | exact hIb _ _ | exact g_b32 | exact g_and32 | assumption | exact ⟨by omega, by omega⟩) (fun c3 => ?_) (fun c3 => ?_)
          · skip
            refine g_iinc_4 hc dX1_ringEnd_32 rfl ?_
            refine g_goto (tgt := 3) hc dX1_ringEnd_35 (by decide) ?_
            refine ih_3 _ ?_ ?_ ?_
            · omega
            · rw [h4, g_first_f (by omega) (by simp only [decide_eq_true_eq]; intro z; omega)]
            · omega
          · skip
            refine g_iload hc dX1_ringEnd_29 rfl ?_
            refine g_iret hc hm dX1_ringEnd_31 ?_
            exact g_postE (by rw [h4, g_first_t (by omega) (by simp only [decide_eq_true_eq]; exact ⟨by omega, by omega⟩)])
  refine lp_3 (m + 1).toNat _ ?_ ?_ (?_)
  · omega
  · rw [Int.sub_zero]; rfl
  · omega
set_option maxHeartbeats 4000000 in
set_option maxRecDepth 100000 in
/-- X1_leastRing -/
theorem c_X1_leastRing (w : g_W) {I : g_I} {J : g_J} {R : g_R} {lb tx : Nat} (hR : g_rf w R lb tx) (hlb : g_life lb) {I2 : g_I} (hI : ∀ k j, g32 (I k j)) (hsI2 : g_off I I2) (hxI2 : ∀ k j, g32 (I2 k j)) (hC : g_cin I lb) {m : Int} (hm1 : 0 ≤ m ∧ m ≤ I 0 11) : g_Met w g_n I2 J R yX1_leastRing cX1_leastRing 5 (some .int) 5 0 0 [(gvr w 686), (gvI m)] (fun rr nn II JJ RR => g_rel w (some (gvI (g_rng I lb m))) g_sH I2 J R rr nn II JJ RR) := by
  refine g_intro (own := RX1) [some (gvr w 686), some (gvI m), none, none, none] (by decide +kernel) rfl (by decide) (Nat.le_of_ble_eq_true rfl) rfl (fun i v hv => g_args 3 i v hv rfl) (fun x hc hm => ?_)
  have hL := hC.1
  obtain ⟨hn0, hn1, hLs, hLf⟩ := id hL
  obtain ⟨-, hC1, hC2, hC3, hC4, hC5, hC6, hC7⟩ := id hC
  have hlb5 := hlb
  unfold g_life at hlb5
  have hdI2 : ∀ k : Nat, ¬ g_sH k → I2 k = I2 k := fun _ _ => rfl
  refine g_aldn hc dX1_leastRing_0 rfl ?_
  refine g_iload_n hc dX1_leastRing_1 rfl ?_
  refine g_V1 hc (c_X1_hear w hR hlb hI hsI2 hxI2 hC (by omega)) my_X1_hear mv_X1_hear ca_686 rfl rfl lm_X1_97 rfl (by decide) (Nat.le_of_ble_eq_true rfl) hm dX1_leastRing_2 (fun r3 n3 I3 J3 R3 hp3 => ?_)
  obtain ⟨⟨rfl, rfl, hfI3, hxI3, rfl, rfl⟩, hHI3⟩ := hp3
  have hsI3 : g_off I I3 := fun k hk => (hfI3 k (fun q => hk (by omega))).trans (hsI2 k hk)
  have hdI3 : ∀ k : Nat, ¬ g_sH k → I3 k = I2 k := fun k hk => (hfI3 k (fun q => hk (by omega))).trans (hdI2 k hk)
  refine g_iconst hc dX1_leastRing_5 ?_
  refine g_istore_2 hc dX1_leastRing_6 rfl ?_
  have lp_7 : ∀ (fu : Nat) (i : Int), 0 ≤ i ∧ i ≤ m → g_rn3 I lb m = g_first (fun t => decide (¬ g_rn2 I lb m t = -1)) (m - i).toNat i → m - i < (fu : Int) → G w x (fun rr nn II JJ RR => g_rel w (some (gvI (g_rng I lb m))) g_sH I2 J R rr nn II JJ RR) 0 0 g_n I3 J R 7 [some (gvr w 686), some (gvI m), some (gvI i), none, none] [] := by
    intro fu
    induction fu with
    | zero => intro i h3 h4 hfu; exfalso; omega
    | succ fu ih =>
      intro i h3 h4 hfu
      have ih_7 := ih
      refine g_iload_n hc dX1_leastRing_7 rfl ?_
      refine g_iload_n hc dX1_leastRing_8 rfl ?_
      refine g_icmp_ge (tgt := 72) hc dX1_leastRing_9 (by decide) (by first | exact hI _ _ | exact hxI2 _ _ | exact hIa _ _ | exact hIb _ _ | exact g_b32 | exact g_and32 | assumption | exact ⟨by omega, by omega⟩) (by first | exact hI _ _ | exact hxI2 _ _ | exact hIa _ _ | exact hIb _ _ | exact g_b32 | exact g_and32 | assumption | exact ⟨by omega, by omega⟩) (fun c1 => ?_) (fun c1 => ?_)
      · skip
        refine g_iconst hc dX1_leastRing_72 ?_
        refine g_iret hc hm dX1_leastRing_73 ?_
        exact g_relE (by rw [g_rng, if_pos (by rw [h4, g_first_e (by omega)])]) hdI3 hxI3
      · skip
        refine g_iconst hc dX1_leastRing_12 ?_
        refine g_istore_3 hc dX1_leastRing_13 rfl ?_
        have lp_14 : ∀ (fu : Nat) (k : Int), 0 ≤ k ∧ k ≤ m → g_rn2 I lb m i = g_first (fun q => decide (0 < g_ahd I lb i q ∧ ¬ g_rnd I lb m i q = -1)) (m - k).toNat k → m - k < (fu : Int) → G w x (fun rr nn II JJ RR => g_rel w (some (gvI (g_rng I lb m))) g_sH I2 J R rr nn II JJ RR) 0 0 g_n I3 J R 14 [some (gvr w 686), some (gvI m), some (gvI i), some (gvI k), none] [] := by
          intro fu
          induction fu with
          | zero => intro k h5 h6 hfu; exfalso; omega
          | succ fu ih =>
            intro k h5 h6 hfu
            have ih_14 := ih
            refine g_iload_n hc dX1_leastRing_14 rfl ?_
            refine g_iload_n hc dX1_leastRing_15 rfl ?_
            refine g_icmp_ge (tgt := 66) hc dX1_leastRing_16 (by decide) (by first | exact hI _ _ | exact hxI2 _ _ | exact hIa _ _ | exact hIb _ _ | exact g_b32 | exact g_and32 | assumption | exact ⟨by omega, by omega⟩) (by first | exact hI _ _ | exact hxI2 _ _ | exact hIa _ _ | exact hIb _ _ | exact g_b32 | exact g_and32 | assumption | exact ⟨by omega, by omega⟩) (fun c2 => ?_) (fun c2 => ?_)
            · skip
              refine g_iinc_2 hc dX1_leastRing_66 rfl ?_
              refine g_goto (tgt := 7) hc dX1_leastRing_69 (by decide) ?_
              refine G_sub (L' := [some (gvr w 686), some (gvI m), some (gvI (i + 1)), none, none]) (show g_le _ _ from ⟨rfl, ⟨rfl, ⟨rfl, trivial⟩⟩⟩) ?_
              refine ih_7 _ ?_ ?_ ?_
              · omega
              · rw [h4, g_first_f (by omega) (by simp only [decide_eq_true_eq]; intro z; exact z (by rw [h6, g_first_e (by omega)]))]
              · omega
            · skip
              have ha1 := g_ahd_in (I := I) (b := lb) (t := i) (q := k) ⟨hn0.1, hn0.2⟩
              have hrd := g_first_in (p := fun l => decide (0 < g_ahd I lb k l ∧ 0 < g_ahd I lb l i)) m.toNat 0 (by omega)
              change g_rnd I lb m i k = -1 ∨ (0 ≤ g_rnd I lb m i k ∧ g_rnd I lb m i k < 0 + _ ∧ _) at hrd
              refine g_aldn hc dX1_leastRing_19 rfl ?_
              refine g_iload_n hc dX1_leastRing_20 rfl ?_
              refine g_iload_n hc dX1_leastRing_21 rfl ?_
              refine g_V2r hc (c_X1_ahead w hR hlb hI hsI3 hxI3 hC (by omega) hHI3 (by omega) (by omega)) my_X1_ahead mv_X1_ahead ca_686 rfl rfl lm_X1_110 rfl (by decide) (Nat.le_of_ble_eq_true rfl) hm dX1_leastRing_22 ?_
              refine g_if_le (tgt := 38) hc dX1_leastRing_25 (by decide) (by first | exact hI _ _ | exact hxI2 _ _ | exact hIa _ _ | exact hIb _ _ | exact g_b32 | exact g_and32 | assumption | exact ⟨by omega, by omega⟩) (fun c3 => ?_) (fun c3 => ?_)
              · skip
                refine g_iconst hc dX1_leastRing_38 ?_
                refine g_istore_4 hc dX1_leastRing_39 rfl ?_
                refine g_iload hc dX1_leastRing_41 rfl ?_
                refine g_iconst hc dX1_leastRing_43 ?_
                refine g_icmp_eq (tgt := 60) hc dX1_leastRing_44 (by decide) (by first | exact ⟨by decide, by decide⟩ | exact ⟨by omega, by omega⟩) ⟨by decide, by decide⟩ (fun c4 => ?_) (fun c4 => ?_)
                · skip
                  refine g_iinc_3 hc dX1_leastRing_60 rfl ?_
                  refine g_goto (tgt := 14) hc dX1_leastRing_63 (by decide) ?_
                  refine G_sub (L' := [some (gvr w 686), some (gvI m), some (gvI i), some (gvI (k + 1)), none]) (show g_le _ _ from ⟨rfl, ⟨rfl, ⟨rfl, ⟨rfl, trivial⟩⟩⟩⟩) ?_
                  refine ih_14 _ ?_ ?_ ?_
                  · omega
                  · first | (exfalso; omega) | rw [h6, g_first_f (by omega) (by simp only [decide_eq_true_eq]; intro z; first | omega | exact absurd (by assumption) z.2)]
                  · omega
                · skip
                  refine g_bipush hc dX1_leastRing_47 (by decide +kernel) ?_
                  refine g_iload_n hc dX1_leastRing_49 rfl ?_
                  refine g_imul hc dX1_leastRing_50 ?_
                  refine g_bipush hc dX1_leastRing_51 (by decide +kernel) ?_
                  refine g_iload_n hc dX1_leastRing_53 rfl ?_
                  refine g_imul hc dX1_leastRing_54 ?_
                  refine g_iadd hc dX1_leastRing_55 ?_
                  refine g_iload hc dX1_leastRing_56 rfl ?_
                  refine g_iadd hc dX1_leastRing_58 ?_
                  refine g_iret hc hm dX1_leastRing_59 ?_
                  have e1 : g_rn2 I lb m i = k := by rw [h6, g_first_t (by omega) (by simp only [decide_eq_true_eq]; exact ⟨by omega, by omega⟩)]
                  have e2 : g_rn3 I lb m = i := by rw [h4, g_first_t (by omega) (by simp only [decide_eq_true_eq]; omega)]
                  exact g_relE (by rw [g_rng, e2, e1, if_neg (by omega)]; first | done | (exfalso; omega)) hdI3 hxI3
              · skip
                refine g_aldn hc dX1_leastRing_28 rfl ?_
                refine g_iload_n hc dX1_leastRing_29 rfl ?_
                refine g_iload_n hc dX1_leastRing_30 rfl ?_
                refine g_iload_n hc dX1_leastRing_31 rfl ?_
                refine g_V3r hc (c_X1_ringEnd w hR hlb hI hsI3 hxI3 hC (by omega) hHI3 (by omega) (by omega)) my_X1_ringEnd mv_X1_ringEnd ca_686 rfl rfl lm_X1_113 rfl (by decide) (Nat.le_of_ble_eq_true rfl) hm dX1_leastRing_32 ?_
                refine g_goto (tgt := 39) hc dX1_leastRing_35 (by decide) ?_
                refine g_istore_4 hc dX1_leastRing_39 rfl ?_
                refine g_iload hc dX1_leastRing_41 rfl ?_
                refine g_iconst hc dX1_leastRing_43 ?_
                refine g_icmp_eq (tgt := 60) hc dX1_leastRing_44 (by decide) (by first | exact ⟨by decide, by decide⟩ | exact ⟨by omega, by omega⟩) ⟨by decide, by decide⟩ (fun c5 => ?_) (fun c5 => ?_)
                · skip
                  refine g_iinc_3 hc dX1_leastRing_60 rfl ?_
                  refine g_goto (tgt := 14) hc dX1_leastRing_63 (by decide) ?_
                  refine G_sub (L' := [some (gvr w 686), some (gvI m), some (gvI i), some (gvI (k + 1)), none]) (show g_le _ _ from ⟨rfl, ⟨rfl, ⟨rfl, ⟨rfl, trivial⟩⟩⟩⟩) ?_
                  refine ih_14 _ ?_ ?_ ?_
                  · omega
                  · first | (exfalso; omega) | rw [h6, g_first_f (by omega) (by simp only [decide_eq_true_eq]; intro z; first | omega | exact absurd (by assumption) z.2)]
                  · omega
                · skip
                  refine g_bipush hc dX1_leastRing_47 (by decide +kernel) ?_
                  refine g_iload_n hc dX1_leastRing_49 rfl ?_
                  refine g_imul hc dX1_leastRing_50 ?_
                  refine g_bipush hc dX1_leastRing_51 (by decide +kernel) ?_
                  refine g_iload_n hc dX1_leastRing_53 rfl ?_
                  refine g_imul hc dX1_leastRing_54 ?_
                  refine g_iadd hc dX1_leastRing_55 ?_
                  refine g_iload hc dX1_leastRing_56 rfl ?_
                  refine g_iadd hc dX1_leastRing_58 ?_
                  refine g_iret hc hm dX1_leastRing_59 ?_
                  have e1 : g_rn2 I lb m i = k := by rw [h6, g_first_t (by omega) (by simp only [decide_eq_true_eq]; exact ⟨by omega, by omega⟩)]
                  have e2 : g_rn3 I lb m = i := by rw [h4, g_first_t (by omega) (by simp only [decide_eq_true_eq]; omega)]
                  exact g_relE (by rw [g_rng, e2, e1, if_neg (by omega)]; first | done | (exfalso; omega)) hdI3 hxI3
        refine lp_14 (m + 1).toNat _ ?_ ?_ (?_)
        · omega
        · rw [Int.sub_zero]; rfl
        · omega
  refine lp_7 (m + 1).toNat _ ?_ ?_ (?_)
  · omega
  · rw [Int.sub_zero]; rfl
  · omega
