set_option maxHeartbeats 4000000 in
set_option maxRecDepth 100000 in
/-- X13_away -/
theorem c_X13_away (w : g_W) {I : g_I} {J : g_J} {R : g_R} {lb tx : Nat} (hR : g_rf w R lb tx) {M : g_I} (hmM : q_rel I lb M) {p : Int} (g1 : g32 p) : g_Met w g_n M J R yX13_away cX13_away 7 (some .int) 4 0 0 [(gvr w 703), (gvI p)] (x_rel w (some (gvI (if 0 ≤ I 0 12 ∧ 0 ≤ p ∧ p ≤ 9999 then g_awy I lb p else -1))) x_a M J lb) := by
  refine g_intro (own := RX13) [some (gvr w 703), some (gvI p), none, none, none, none, none] (by decide +kernel) rfl (by decide) (Nat.le_of_ble_eq_true rfl) rfl (fun i v hv => g_args 5 i v hv rfl) (fun x hc hm => ?_)
  have hfM : ∀ (k : Nat) (j : Int), ¬ x_a k j → M k j = M k j := fun _ _ _ => rfl
  have hI := hmM.gi
  have hTb := q_b1 hmM
  have hLv := hmM.lv
  have hC := hmM.cin
  have hL := hC.1
  obtain ⟨hn0, hn1, hLs, hLf⟩ := id hL
  obtain ⟨-, hC1, hC2, hC3, hC4, hC5, hC6, hC7⟩ := id hC
  have hN0 := q_n0 hmM
  have hsp := g_shl_p hn0
  refine g_aldn hc dX13_away_0 rfl ?_
  refine g_iconst hc dX13_away_1 ?_
  refine g_putI' hc lk_X13_102 ca_703 0 rfl dX13_away_2 (fun I3 hI3 => ?_)
  have hmI3 : q_rel I lb I3 := by rw [hI3]; exact q_up hmM (by unfold x_a; omega) (by first | exact hI _ _ | exact hmM.g _ _ | exact g_b32 | exact g_and32 | exact g_or32 | exact g_shl32 | assumption | exact ⟨by omega, by omega⟩)
  have hfI3 : ∀ (k : Nat) (j : Int), ¬ x_a k j → I3 k j = M k j := fun k j hk => by rw [hI3]; exact (g_up_n (by unfold x_a at hk; omega)).trans (hfM k j hk)
  refine g_aldn hc dX13_away_5 rfl ?_
  refine g_getIe hc lk_X13_52 ca_703 24 rfl (show I3 703 24 = I 0 12 from hmI3.tab) dX13_away_6 ?_
  refine g_iconst hc dX13_away_9 ?_
  refine g_icmp_eq (tgt := 25) hc dX13_away_10 (by decide) (by first | exact hI _ _ | exact hxI2 _ _ | exact hIa _ _ | exact hIb _ _ | exact g_b32 | exact g_and32 | assumption | exact ⟨by omega, by omega⟩) (by first | exact hI _ _ | exact hxI2 _ _ | exact hIa _ _ | exact hIb _ _ | exact g_b32 | exact g_and32 | assumption | exact ⟨by omega, by omega⟩) (fun c1 => ?_) (fun c1 => ?_)
  · skip
    refine g_iconst hc dX13_away_25 ?_
    refine g_iret hc hm dX13_away_26 ?_
    exact x_end (by rw [if_neg (by omega)]) hfI3 hmI3.g hR
  · skip
    refine g_iload_n hc dX13_away_13 rfl ?_
    refine g_i2l hc dX13_away_14 (by first | exact hI _ _ | exact hxI2 _ _ | exact hIa _ _ | exact hIb _ _ | exact g_b32 | exact g_and32 | assumption | exact ⟨by omega, by omega⟩) ?_
    refine g_lconst hc dX13_away_15 0 (by decide +kernel) ?_
    refine g_ldc2 (k := 9999) hc dX13_away_16 _ lc_X13_399 (by decide +kernel) ?_
    refine g_S3r hc (c_X13_isIn w (by first | exact hI _ _ | exact hmM.g _ _ | exact g_b32 | exact g_and32 | exact g_or32 | exact g_shl32 | assumption | exact ⟨by omega, by omega⟩) (by first | exact hI _ _ | exact hmM.g _ _ | exact g_b32 | exact g_and32 | exact g_or32 | exact g_shl32 | assumption | exact ⟨by omega, by omega⟩) (by first | exact hI _ _ | exact hmM.g _ _ | exact g_b32 | exact g_and32 | exact g_or32 | exact g_shl32 | assumption | exact ⟨by omega, by omega⟩)) my_X13_isIn ms_X13_isIn lm_X13_231 rfl (by decide) (Nat.le_of_ble_eq_true rfl) hm dX13_away_19 ?_
    refine g_ifb_ne (tgt := 27) hc dX13_away_22 (by decide)  (fun c2 => ?_) (fun c2 => ?_)
    · skip
      have hTs := q_ts hmM (by omega)
      refine g_aldn hc dX13_away_27 rfl ?_
      refine g_V0 hc (c_X13_thereBits w hR hmI3 (by omega)) my_X13_thereBits mv_X13_thereBits ca_703 rfl rfl lm_X13_410 rfl (by decide) (Nat.le_of_ble_eq_true rfl) hm dX13_away_28 (fun r4 n4 I4 J4 R4 hp4 => ?_)
      obtain ⟨rfl, rfl, hK4, hX4, rfl, t4, hR⟩ := hp4
      have hmI4 : q_rel I lb I4 := q_cg (fun k j hk => hK4 k j (fun z => hk (x_wa z))) hX4 hmI3
      have hfI4 : ∀ (k : Nat) (j : Int), ¬ x_a k j → I4 k j = M k j := fun k j hk => (hK4 k j (fun z => hk (x_wa z))).trans (hfI3 k j hk)
      refine g_istore_2 hc dX13_away_31 rfl ?_
      refine g_iconst hc dX13_away_32 ?_
      refine g_istore_3 hc dX13_away_33 rfl ?_
      have lp_34 : ∀ (fu : Nat) (i : Int) (Mm : g_I) (Rm : g_R), 0 ≤ i ∧ i ≤ I lb 0 → (∀ t : Int, 0 ≤ t → t < i → Mm 719 t = g_dem I lb t) → (∃ tm, g_rf w Rm lb tm) → q_rel I lb Mm → (∀ (k : Nat) (j : Int), ¬ x_a k j → Mm k j = M k j) → I lb 0 - i < (fu : Int) → G w x (x_rel w (some (gvI (if 0 ≤ I 0 12 ∧ 0 ≤ p ∧ p ≤ 9999 then g_awy I lb p else -1))) x_a M J lb) 0 0 g_n Mm J Rm 34 [some (gvr w 703), some (gvI p), some (gvI (g_thb I lb)), some (gvI i), none, none, none] [] := by
        intro fu
        induction fu with
        | zero => intro i Mm Rm h3 hr1 hR hmMm hfMm hfu; exfalso; omega
        | succ fu ih =>
          intro i Mm Rm h3 hr1 hR hmMm hfMm hfu
          obtain ⟨tm, hR⟩ := hR
          have ih_34 := ih
          refine g_iload_n hc dX13_away_34 rfl ?_
          refine g_aldn hc dX13_away_35 rfl ?_
          refine g_getRk hc lk_X13_46 ca_703 (rc_703_21 hR) dX13_away_36 ?_
          refine g_aldn hc dX13_away_39 rfl ?_
          refine g_getIe hc lk_X13_52 ca_703 24 rfl (show Mm 703 24 = I 0 12 from hmMm.tab) dX13_away_40 ?_
          refine g_ialde hc ca_711 (by decide) (by omega) (by omega) (show Mm 711 (I 0 12) = I lb 0 from q_lm hmMm (by omega)) dX13_away_43 ?_
          refine g_icmp_ge (tgt := 76) hc dX13_away_44 (by decide) (by first | exact hI _ _ | exact hxI2 _ _ | exact hIa _ _ | exact hIb _ _ | exact g_b32 | exact g_and32 | assumption | exact ⟨by omega, by omega⟩) (by first | exact hI _ _ | exact hxI2 _ _ | exact hIa _ _ | exact hIb _ _ | exact g_b32 | exact g_and32 | assumption | exact ⟨by omega, by omega⟩) (fun c3 => ?_) (fun c3 => ?_)
          · skip
            have hr8 : (∀ t : Int, 0 ≤ t → t < I lb 0 → Mm 719 t = g_dem I lb t) := fun t a c => hr1 t a (by omega)
            refine g_iconst hc dX13_away_76 ?_
            refine g_istore_3 hc dX13_away_77 rfl ?_
            refine g_iconst hc dX13_away_78 ?_
            refine g_istore_4 hc dX13_away_79 rfl ?_
            have lp_81 : ∀ (fu : Nat) (e i : Int), 0 ≤ i ∧ i ≤ (g_shl 1 (I lb 0)) → x_aw (fun j => g_and j (g_xor (g_thb I lb) (-1)) = 0 ∧ x_ap I lb p j) i e → (-1 ≤ e ∧ e < 4096) → (g_shl 1 (I lb 0)) - i < (fu : Int) → G w x (x_rel w (some (gvI (if 0 ≤ I 0 12 ∧ 0 ≤ p ∧ p ≤ 9999 then g_awy I lb p else -1))) x_a M J lb) 0 0 g_n Mm J Rm 81 [some (gvr w 703), some (gvI p), some (gvI (g_thb I lb)), some (gvI e), some (gvI i), none, none] [] := by
              intro fu
              induction fu with
              | zero => intro e i h3 h4 h7 hfu; exfalso; omega
              | succ fu ih =>
                intro e i h3 h4 h7 hfu
                have ih_81 := ih
                refine g_iload hc dX13_away_81 rfl ?_
                refine g_iconst hc dX13_away_83 ?_
                refine g_aldn hc dX13_away_84 rfl ?_
                refine g_getRk hc lk_X13_46 ca_703 (rc_703_21 hR) dX13_away_85 ?_
                refine g_aldn hc dX13_away_88 rfl ?_
                refine g_getIe hc lk_X13_52 ca_703 24 rfl (show Mm 703 24 = I 0 12 from hmMm.tab) dX13_away_89 ?_
                refine g_ialde hc ca_711 (by decide) (by omega) (by omega) (show Mm 711 (I 0 12) = I lb 0 from q_lm hmMm (by omega)) dX13_away_92 ?_
                refine g_ishl hc dX13_away_93 ?_
                refine g_icmp_ge (tgt := 193) hc dX13_away_94 (by decide) (by first | exact hI _ _ | exact hxI2 _ _ | exact hIa _ _ | exact hIb _ _ | exact g_b32 | exact g_and32 | assumption | exact ⟨by omega, by omega⟩) (by first | exact hI _ _ | exact hxI2 _ _ | exact hIa _ _ | exact hIb _ _ | exact g_b32 | exact g_and32 | assumption | exact ⟨by omega, by omega⟩) (fun c4 => ?_) (fun c4 => ?_)
                · skip
                  refine g_iload_n hc dX13_away_193 rfl ?_
                  refine g_iret hc hm dX13_away_194 ?_
                  exact x_end (by rw [if_pos (by omega)]; exact x_awf hL (by omega) ((show i = g_shl 1 (I lb 0) by omega) ▸ h4)) hfMm hmMm.g hR
                · skip
                  refine g_iload hc dX13_away_97 rfl ?_
                  refine g_iload_n hc dX13_away_99 rfl ?_
                  refine g_iconst hc dX13_away_100 ?_
                  refine g_ixor hc dX13_away_101 ?_
                  refine g_iand hc dX13_away_102 ?_
                  refine g_if_ne (tgt := 187) hc dX13_away_103 (by decide) (by first | exact hI _ _ | exact hxI2 _ _ | exact hIa _ _ | exact hIb _ _ | exact g_b32 | exact g_and32 | assumption | exact ⟨by omega, by omega⟩) (fun c5 => ?_) (fun c5 => ?_)
                  · skip
                    have hst9 : x_aw (fun j => g_and j (g_xor (g_thb I lb) (-1)) = 0 ∧ x_ap I lb p j) (i + 1) e := h4.no (Or.inr (fun z => c5 z.1))
                    refine g_iinc_4 hc dX13_away_187 rfl ?_
                    refine g_goto (tgt := 81) hc dX13_away_190 (by decide) ?_
                    refine ih_81 _ _ ?_ ?_ ?_ ?_
                    · omega
                    · exact hst9
                    · omega
                    · omega
                  · skip
                    have hS9 := c5
                    refine g_iload_n hc dX13_away_106 rfl ?_
                    refine g_iconst hc dX13_away_107 ?_
                    refine g_icmp_eq (tgt := 126) hc dX13_away_108 (by decide) (by first | exact hI _ _ | exact hxI2 _ _ | exact hIa _ _ | exact hIb _ _ | exact g_b32 | exact g_and32 | assumption | exact ⟨by omega, by omega⟩) (by first | exact hI _ _ | exact hxI2 _ _ | exact hIa _ _ | exact hIb _ _ | exact g_b32 | exact g_and32 | assumption | exact ⟨by omega, by omega⟩) (fun c6 => ?_) (fun c6 => ?_)
                    · skip
                      have hcc : e = -1 ∨ g_bc i < g_bc e := Or.inl c6
                      refine g_iconst hc dX13_away_126 ?_
                      refine g_istore_5 hc dX13_away_127 rfl ?_
                      refine g_iconst hc dX13_away_129 ?_
                      refine g_istore_6 hc dX13_away_130 rfl ?_
                      have lp_132 : ∀ (fu : Nat) (v t : Int), 0 ≤ t ∧ t ≤ I lb 0 → v = g_sum (fun t => if g_bit i t then 0 else g_dem I lb t) t.toNat → (0 ≤ v ∧ v ≤ 693 * t) → I lb 0 - t < (fu : Int) → G w x (x_rel w (some (gvI (if 0 ≤ I 0 12 ∧ 0 ≤ p ∧ p ≤ 9999 then g_awy I lb p else -1))) x_a M J lb) 0 0 g_n Mm J Rm 132 [some (gvr w 703), some (gvI p), some (gvI (g_thb I lb)), some (gvI e), some (gvI i), some (gvI v), some (gvI t)] [] := by
                        intro fu
                        induction fu with
                        | zero => intro v t k3 k4 k5 hfu; exfalso; omega
                        | succ fu ih =>
                          intro v t k3 k4 k5 hfu
                          have ih_132 := ih
                          refine g_iload hc dX13_away_132 rfl ?_
                          refine g_aldn hc dX13_away_134 rfl ?_
                          refine g_getRk hc lk_X13_46 ca_703 (rc_703_21 hR) dX13_away_135 ?_
                          refine g_aldn hc dX13_away_138 rfl ?_
                          refine g_getIe hc lk_X13_52 ca_703 24 rfl (show Mm 703 24 = I 0 12 from hmMm.tab) dX13_away_139 ?_
                          refine g_ialde hc ca_711 (by decide) (by omega) (by omega) (show Mm 711 (I 0 12) = I lb 0 from q_lm hmMm (by omega)) dX13_away_142 ?_
                          refine g_icmp_ge (tgt := 178) hc dX13_away_143 (by decide) (by first | exact hI _ _ | exact hxI2 _ _ | exact hIa _ _ | exact hIb _ _ | exact g_b32 | exact g_and32 | assumption | exact ⟨by omega, by omega⟩) (by first | exact hI _ _ | exact hxI2 _ _ | exact hIa _ _ | exact hIb _ _ | exact g_b32 | exact g_and32 | assumption | exact ⟨by omega, by omega⟩) (fun c7 => ?_) (fun c7 => ?_)
                          · skip
                            have hsm : v = g_dms I lb - g_asb I lb i := by rw [k4, show t = I lb 0 by omega, x_left]; rfl
                            refine g_iload hc dX13_away_178 rfl ?_
                            refine g_iload_n hc dX13_away_180 rfl ?_
                            refine g_icmp_gt (tgt := 187) hc dX13_away_181 (by decide) (by first | exact hI _ _ | exact hxI2 _ _ | exact hIa _ _ | exact hIb _ _ | exact g_b32 | exact g_and32 | assumption | exact ⟨by omega, by omega⟩) (by first | exact hI _ _ | exact hxI2 _ _ | exact hIa _ _ | exact hIb _ _ | exact g_b32 | exact g_and32 | assumption | exact ⟨by omega, by omega⟩) (fun c8 => ?_) (fun c8 => ?_)
                            · skip
                              have hst9 : x_aw (fun j => g_and j (g_xor (g_thb I lb) (-1)) = 0 ∧ x_ap I lb p j) (i + 1) e := h4.no (Or.inr (fun z => by have z2 : g_dms I lb - p ≤ g_asb I lb i := z.2; omega))
                              refine g_iinc_4 hc dX13_away_187 rfl ?_
                              refine g_goto (tgt := 81) hc dX13_away_190 (by decide) ?_
                              refine G_sub (L' := [some (gvr w 703), some (gvI p), some (gvI (g_thb I lb)), some (gvI e), some (gvI (i + 1)), none, none]) (show g_le _ _ from ⟨rfl, ⟨rfl, ⟨rfl, ⟨rfl, ⟨rfl, trivial⟩⟩⟩⟩⟩) ?_
                              refine ih_81 _ _ ?_ ?_ ?_ ?_
                              · omega
                              · exact hst9
                              · omega
                              · omega
                            · skip
                              have hst9 : x_aw (fun j => g_and j (g_xor (g_thb I lb) (-1)) = 0 ∧ x_ap I lb p j) (i + 1) i := h4.yes h3.1 hcc ⟨hS9, by show g_dms I lb - p ≤ g_asb I lb i; omega⟩
                              refine g_iload hc dX13_away_184 rfl ?_
                              refine g_istore_3 hc dX13_away_186 rfl ?_
                              refine g_iinc_4 hc dX13_away_187 rfl ?_
                              refine g_goto (tgt := 81) hc dX13_away_190 (by decide) ?_
                              refine G_sub (L' := [some (gvr w 703), some (gvI p), some (gvI (g_thb I lb)), some (gvI i), some (gvI (i + 1)), none, none]) (show g_le _ _ from ⟨rfl, ⟨rfl, ⟨rfl, ⟨rfl, ⟨rfl, trivial⟩⟩⟩⟩⟩) ?_
                              refine ih_81 _ _ ?_ ?_ ?_ ?_
                              · omega
                              · exact hst9
                              · omega
                              · omega
                          · skip
                            refine g_iload hc dX13_away_146 rfl ?_
                            refine g_iload hc dX13_away_148 rfl ?_
                            refine g_iload hc dX13_away_150 rfl ?_
                            refine g_S2r hc (c_X13_has w) my_X13_has ms_X13_has lm_X13_224 rfl (by decide) (Nat.le_of_ble_eq_true rfl) hm dX13_away_152 ?_
                            refine g_ifb_eq (tgt := 162) hc dX13_away_155 (by decide)  (fun c9 => ?_) (fun c9 => ?_)
                            · skip
                              have hb8 := c9
                              have hdm := g_dem_in hL (s := t) (by omega)
                              refine g_aldn hc dX13_away_162 rfl ?_
                              refine g_getRk hc lk_X13_75 ca_703 (rc_703_33 hR) dX13_away_163 ?_
                              refine g_iload hc dX13_away_166 rfl ?_
                              refine g_ialde hc ca_719 (by decide) (by omega) (by omega) (show Mm 719 t = g_dem I lb t from hr8 t (by omega) (by omega)) dX13_away_168 ?_
                              refine g_iadd hc dX13_away_169 ?_
                              refine g_istore_5 hc dX13_away_170 rfl ?_
                              refine g_iinc_6 hc dX13_away_172 rfl ?_
                              refine g_goto (tgt := 132) hc dX13_away_175 (by decide) ?_
                              refine ih_132 _ _ ?_ ?_ ?_ ?_
                              · omega
                              · rw [g_sum_i k3.1, k4]; rw [if_neg hb8]
                              · omega
                              · omega
                            · skip
                              have hb8 := c9
                              refine g_iconst hc dX13_away_158 ?_
                              refine g_goto (tgt := 169) hc dX13_away_159 (by decide) ?_
                              refine g_iadd hc dX13_away_169 ?_
                              refine g_istore_5 hc dX13_away_170 rfl ?_
                              refine g_iinc_6 hc dX13_away_172 rfl ?_
                              refine g_goto (tgt := 132) hc dX13_away_175 (by decide) ?_
                              refine ih_132 _ _ ?_ ?_ ?_ ?_
                              · omega
                              · rw [g_sum_i k3.1, k4]; rw [if_pos hb8]
                              · omega
                              · omega
                      refine lp_132 13 _ _ ?_ ?_ ?_ (?_)
                      · omega
                      · rfl
                      · omega
                      · omega
                    · skip
                      refine g_iload hc dX13_away_111 rfl ?_
                      refine g_S1r hc (c_J6_bitCount_0f7a4 w) my_J6_bitCount_0f7a4 ms_J6_bitCount_0f7a4 lm_X13_413 rfl (by decide) (Nat.le_of_ble_eq_true rfl) hm dX13_away_113 ?_
                      refine g_iload_n hc dX13_away_116 rfl ?_
                      refine g_S1r hc (c_J6_bitCount_0f7a4 w) my_J6_bitCount_0f7a4 ms_J6_bitCount_0f7a4 lm_X13_413 rfl (by decide) (Nat.le_of_ble_eq_true rfl) hm dX13_away_117 ?_
                      refine g_icmp_lt (tgt := 126) hc dX13_away_120 (by decide) (by first | exact hI _ _ | exact hxI2 _ _ | exact hIa _ _ | exact hIb _ _ | exact g_b32 | exact g_and32 | assumption | exact ⟨by omega, by omega⟩) (by first | exact hI _ _ | exact hxI2 _ _ | exact hIa _ _ | exact hIb _ _ | exact g_b32 | exact g_and32 | assumption | exact ⟨by omega, by omega⟩) (fun c10 => ?_) (fun c10 => ?_)
                      · skip
                        have hcc : e = -1 ∨ g_bc i < g_bc e := Or.inr c10
                        refine g_iconst hc dX13_away_126 ?_
                        refine g_istore_5 hc dX13_away_127 rfl ?_
                        refine g_iconst hc dX13_away_129 ?_
                        refine g_istore_6 hc dX13_away_130 rfl ?_
                        have lp_132 : ∀ (fu : Nat) (v t : Int), 0 ≤ t ∧ t ≤ I lb 0 → v = g_sum (fun t => if g_bit i t then 0 else g_dem I lb t) t.toNat → (0 ≤ v ∧ v ≤ 693 * t) → I lb 0 - t < (fu : Int) → G w x (x_rel w (some (gvI (if 0 ≤ I 0 12 ∧ 0 ≤ p ∧ p ≤ 9999 then g_awy I lb p else -1))) x_a M J lb) 0 0 g_n Mm J Rm 132 [some (gvr w 703), some (gvI p), some (gvI (g_thb I lb)), some (gvI e), some (gvI i), some (gvI v), some (gvI t)] [] := by
                          intro fu
                          induction fu with
                          | zero => intro v t k3 k4 k5 hfu; exfalso; omega
                          | succ fu ih =>
                            intro v t k3 k4 k5 hfu
                            have ih_132 := ih
                            refine g_iload hc dX13_away_132 rfl ?_
                            refine g_aldn hc dX13_away_134 rfl ?_
                            refine g_getRk hc lk_X13_46 ca_703 (rc_703_21 hR) dX13_away_135 ?_
                            refine g_aldn hc dX13_away_138 rfl ?_
                            refine g_getIe hc lk_X13_52 ca_703 24 rfl (show Mm 703 24 = I 0 12 from hmMm.tab) dX13_away_139 ?_
                            refine g_ialde hc ca_711 (by decide) (by omega) (by omega) (show Mm 711 (I 0 12) = I lb 0 from q_lm hmMm (by omega)) dX13_away_142 ?_
                            refine g_icmp_ge (tgt := 178) hc dX13_away_143 (by decide) (by first | exact hI _ _ | exact hxI2 _ _ | exact hIa _ _ | exact hIb _ _ | exact g_b32 | exact g_and32 | assumption | exact ⟨by omega, by omega⟩) (by first | exact hI _ _ | exact hxI2 _ _ | exact hIa _ _ | exact hIb _ _ | exact g_b32 | exact g_and32 | assumption | exact ⟨by omega, by omega⟩) (fun c11 => ?_) (fun c11 => ?_)
                            · skip
                              have hsm : v = g_dms I lb - g_asb I lb i := by rw [k4, show t = I lb 0 by omega, x_left]; rfl
                              refine g_iload hc dX13_away_178 rfl ?_
                              refine g_iload_n hc dX13_away_180 rfl ?_
                              refine g_icmp_gt (tgt := 187) hc dX13_away_181 (by decide) (by first | exact hI _ _ | exact hxI2 _ _ | exact hIa _ _ | exact hIb _ _ | exact g_b32 | exact g_and32 | assumption | exact ⟨by omega, by omega⟩) (by first | exact hI _ _ | exact hxI2 _ _ | exact hIa _ _ | exact hIb _ _ | exact g_b32 | exact g_and32 | assumption | exact ⟨by omega, by omega⟩) (fun c12 => ?_) (fun c12 => ?_)
                              · skip
                                have hst9 : x_aw (fun j => g_and j (g_xor (g_thb I lb) (-1)) = 0 ∧ x_ap I lb p j) (i + 1) e := h4.no (Or.inr (fun z => by have z2 : g_dms I lb - p ≤ g_asb I lb i := z.2; omega))
                                refine g_iinc_4 hc dX13_away_187 rfl ?_
                                refine g_goto (tgt := 81) hc dX13_away_190 (by decide) ?_
                                refine G_sub (L' := [some (gvr w 703), some (gvI p), some (gvI (g_thb I lb)), some (gvI e), some (gvI (i + 1)), none, none]) (show g_le _ _ from ⟨rfl, ⟨rfl, ⟨rfl, ⟨rfl, ⟨rfl, trivial⟩⟩⟩⟩⟩) ?_
                                refine ih_81 _ _ ?_ ?_ ?_ ?_
                                · omega
                                · exact hst9
                                · omega
                                · omega
                              · skip
                                have hst9 : x_aw (fun j => g_and j (g_xor (g_thb I lb) (-1)) = 0 ∧ x_ap I lb p j) (i + 1) i := h4.yes h3.1 hcc ⟨hS9, by show g_dms I lb - p ≤ g_asb I lb i; omega⟩
                                refine g_iload hc dX13_away_184 rfl ?_
                                refine g_istore_3 hc dX13_away_186 rfl ?_
                                refine g_iinc_4 hc dX13_away_187 rfl ?_
                                refine g_goto (tgt := 81) hc dX13_away_190 (by decide) ?_
                                refine G_sub (L' := [some (gvr w 703), some (gvI p), some (gvI (g_thb I lb)), some (gvI i), some (gvI (i + 1)), none, none]) (show g_le _ _ from ⟨rfl, ⟨rfl, ⟨rfl, ⟨rfl, ⟨rfl, trivial⟩⟩⟩⟩⟩) ?_
                                refine ih_81 _ _ ?_ ?_ ?_ ?_
                                · omega
                                · exact hst9
                                · omega
                                · omega
                            · skip
                              refine g_iload hc dX13_away_146 rfl ?_
                              refine g_iload hc dX13_away_148 rfl ?_
                              refine g_iload hc dX13_away_150 rfl ?_
                              refine g_S2r hc (c_X13_has w) my_X13_has ms_X13_has lm_X13_224 rfl (by decide) (Nat.le_of_ble_eq_true rfl) hm dX13_away_152 ?_
                              refine g_ifb_eq (tgt := 162) hc dX13_away_155 (by decide)  (fun c13 => ?_) (fun c13 => ?_)
                              · skip
                                have hb8 := c13
                                have hdm := g_dem_in hL (s := t) (by omega)
                                refine g_aldn hc dX13_away_162 rfl ?_
                                refine g_getRk hc lk_X13_75 ca_703 (rc_703_33 hR) dX13_away_163 ?_
                                refine g_iload hc dX13_away_166 rfl ?_
                                refine g_ialde hc ca_719 (by decide) (by omega) (by omega) (show Mm 719 t = g_dem I lb t from hr8 t (by omega) (by omega)) dX13_away_168 ?_
                                refine g_iadd hc dX13_away_169 ?_
                                refine g_istore_5 hc dX13_away_170 rfl ?_
                                refine g_iinc_6 hc dX13_away_172 rfl ?_
                                refine g_goto (tgt := 132) hc dX13_away_175 (by decide) ?_
                                refine ih_132 _ _ ?_ ?_ ?_ ?_
                                · omega
                                · rw [g_sum_i k3.1, k4]; rw [if_neg hb8]
                                · omega
                                · omega
                              · skip
                                have hb8 := c13
                                refine g_iconst hc dX13_away_158 ?_
                                refine g_goto (tgt := 169) hc dX13_away_159 (by decide) ?_
                                refine g_iadd hc dX13_away_169 ?_
                                refine g_istore_5 hc dX13_away_170 rfl ?_
                                refine g_iinc_6 hc dX13_away_172 rfl ?_
                                refine g_goto (tgt := 132) hc dX13_away_175 (by decide) ?_
                                refine ih_132 _ _ ?_ ?_ ?_ ?_
                                · omega
                                · rw [g_sum_i k3.1, k4]; rw [if_pos hb8]
                                · omega
                                · omega
                        refine lp_132 13 _ _ ?_ ?_ ?_ (?_)
                        · omega
                        · rfl
                        · omega
                        · omega
                      · skip
                        have hst9 : x_aw (fun j => g_and j (g_xor (g_thb I lb) (-1)) = 0 ∧ x_ap I lb p j) (i + 1) e := h4.no (Or.inl ⟨by omega, by omega⟩)
                        refine g_goto (tgt := 187) hc dX13_away_123 (by decide) ?_
                        refine g_iinc_4 hc dX13_away_187 rfl ?_
                        refine g_goto (tgt := 81) hc dX13_away_190 (by decide) ?_
                        refine ih_81 _ _ ?_ ?_ ?_ ?_
                        · omega
                        · exact hst9
                        · omega
                        · omega
            refine lp_81 4097 _ _ ?_ ?_ ?_ (?_)
            · omega
            · exact Or.inl ⟨rfl, fun j a c => by omega⟩
            · omega
            · omega
          · skip
            refine g_aldn hc dX13_away_47 rfl ?_
            refine g_getRk hc lk_X13_75 ca_703 (rc_703_33 hR) dX13_away_48 ?_
            refine g_iload_n hc dX13_away_51 rfl ?_
            refine g_iload_n hc dX13_away_52 rfl ?_
            refine g_iload_n hc dX13_away_53 rfl ?_
            refine g_S2r hc (c_X13_has w) my_X13_has ms_X13_has lm_X13_224 rfl (by decide) (Nat.le_of_ble_eq_true rfl) hm dX13_away_54 ?_
            refine g_ifb_eq (tgt := 68) hc dX13_away_57 (by decide)  (fun c14 => ?_) (fun c14 => ?_)
            · skip
              have hr3 : (∀ t : Int, 0 ≤ t → t < i → Mm 719 t = g_dem I lb t) := hr1
              have hb9 := c14
              have hdm := g_dem_in hL (s := i) (by omega)
              have hdv : g_dem I lb i = 0 := by rw [q_dm_dem (by omega), if_neg (fun z => hb9 (((x_thb (b := lb) hn0).2 i (by omega) (by omega)).mpr z))]
              refine g_iconst hc dX13_away_68 ?_
              refine g_iast' hc ca_719 (by decide) (by omega) (by omega)  dX13_away_69 (fun I5 hI5 => ?_)
              have hmI5 : q_rel I lb I5 := by rw [hI5]; exact q_up hmMm (by unfold x_a; omega) (by first | exact hI _ _ | exact hmM.g _ _ | exact g_b32 | exact g_and32 | exact g_or32 | exact g_shl32 | assumption | exact ⟨by omega, by omega⟩)
              have hfI5 : ∀ (k : Nat) (j : Int), ¬ x_a k j → I5 k j = M k j := fun k j hk => by rw [hI5]; exact (g_up_n (by unfold x_a at hk; omega)).trans (hfMm k j hk)
              have hr4 : (∀ t : Int, 0 ≤ t → t < (i + 1) → I5 719 t = g_dem I lb t) := fun t a c => by
                rw [hI5]
                by_cases e : t = i
                · rw [e, g_up_s]; exact hdv.symm
                · rw [g_up_i e]; exact hr3 t a (by omega)
              refine g_iinc_3 hc dX13_away_70 rfl ?_
              refine g_goto (tgt := 34) hc dX13_away_73 (by decide) ?_
              refine ih_34 _ _ _ ?_ ?_ ?_ ?_ ?_ ?_
              · omega
              · exact hr4
              · exact ⟨_, hR⟩
              · exact hmI5
              · exact hfI5
              · omega
            · skip
              have hb9 := c14
              have hdm := g_dem_in hL (s := i) (by omega)
              have hdv : g_dem I lb i = q_dm I lb i := by rw [q_dm_dem (by omega), if_pos (((x_thb (b := lb) hn0).2 i (by omega) (by omega)).mp hb9)]
              refine g_aldn hc dX13_away_60 rfl ?_
              refine g_iload_n hc dX13_away_61 rfl ?_
              refine g_V1 hc (c_X13_demandOf w hR hmMm (by omega)) my_X13_demandOf mv_X13_demandOf ca_703 rfl rfl lm_X13_404 rfl (by decide) (Nat.le_of_ble_eq_true rfl) hm dX13_away_62 (fun r6 n6 I6 J6 R6 hp6 => ?_)
              obtain ⟨rfl, rfl, hK6, hX6, rfl, t6, hR⟩ := hp6
              have hmI6 : q_rel I lb I6 := q_cg (fun k j hk => hK6 k j (fun z => hk (x_wa z))) hX6 hmMm
              have hfI6 : ∀ (k : Nat) (j : Int), ¬ x_a k j → I6 k j = M k j := fun k j hk => (hK6 k j (fun z => hk (x_wa z))).trans (hfMm k j hk)
              have hr3 : (∀ t : Int, 0 ≤ t → t < i → I6 719 t = g_dem I lb t) := fun t a c => (hK6 719 t (by unfold x_w; omega)).trans (hr1 t a c)
              refine g_goto (tgt := 69) hc dX13_away_65 (by decide) ?_
              refine g_iast' hc ca_719 (by decide) (by omega) (by omega)  dX13_away_69 (fun I7 hI7 => ?_)
              have hmI7 : q_rel I lb I7 := by rw [hI7]; exact q_up hmI6 (by unfold x_a; omega) (by first | exact hI _ _ | exact hmM.g _ _ | exact g_b32 | exact g_and32 | exact g_or32 | exact g_shl32 | assumption | exact ⟨by omega, by omega⟩)
              have hfI7 : ∀ (k : Nat) (j : Int), ¬ x_a k j → I7 k j = M k j := fun k j hk => by rw [hI7]; exact (g_up_n (by unfold x_a at hk; omega)).trans (hfI6 k j hk)
              have hr4 : (∀ t : Int, 0 ≤ t → t < (i + 1) → I7 719 t = g_dem I lb t) := fun t a c => by
                rw [hI7]
                by_cases e : t = i
                · rw [e, g_up_s]; exact hdv.symm
                · rw [g_up_i e]; exact hr3 t a (by omega)
              refine g_iinc_3 hc dX13_away_70 rfl ?_
              refine g_goto (tgt := 34) hc dX13_away_73 (by decide) ?_
              refine ih_34 _ _ _ ?_ ?_ ?_ ?_ ?_ ?_
              · omega
              · exact hr4
              · exact ⟨_, hR⟩
              · exact hmI7
              · exact hfI7
              · omega
      refine lp_34 13 _ _ _ ?_ ?_ ?_ ?_ ?_ (?_)
      · omega
      · intro t a c; omega
      · exact ⟨_, hR⟩
      · exact hmI4
      · exact hfI4
      · omega
    · skip
      refine g_iconst hc dX13_away_25 ?_
      refine g_iret hc hm dX13_away_26 ?_
      exact x_end (by rw [if_neg (by omega)]) hfI3 hmI3.g hR
